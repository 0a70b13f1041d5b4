/-! ROWS, LEDGERS, CHARACTERS -/
/-- rows of so many numbers each -/
def oRw (X : Nat → Int → Int) (i nn : Nat) : Prop := (X i 0 = 2 ∨ X i 0 = 4) ∧ (0 ≤ X i 2 ∧ X i 2 ≤ X i 1) ∧ X i 1 ≤ 40 ∧ (nn : Int) = X i 1 * X i 0
def cPt (X : Nat → Int → Int) (i : Nat) (q v : Int) : Nat → Int → Int := if q < X i 0 then zU X (i + 1) (X i 2 * X i 0 + q) v else X
def cRw (X : Nat → Int → Int) (i : Nat) (a b g d : Int) : Nat → Int → Int := if X i 1 ≤ X i 2 then X else zU (cPt (cPt (cPt (cPt X i 0 a) i 1 b) i 2 g) i 3 d) i 2 (X i 2 + 1)
theorem cPt_o {X : Nat → Int → Int} {i : Nat} {q v : Int} : ∀ z, z ≠ i + 1 → cPt X i q v z = X z := by
  intro z h
  unfold cPt
  split
  · exact zU_o h
  · rfl
abbrev cX8_put : ByteArray := prog_10_method_4_code
def yX8_put : MethodName := ⟨RX8, "put", "(II)V"⟩
theorem dX8_put_0 : decode cX8_put 0 = .ok (.aload_n 0, 1) := by decide +kernel
theorem dX8_put_1 : decode cX8_put 1 = .ok (.getfield 22, 3) := by decide +kernel
theorem dX8_put_4 : decode cX8_put 4 = .ok (.aload_n 0, 1) := by decide +kernel
theorem dX8_put_5 : decode cX8_put 5 = .ok (.getfield 9, 3) := by decide +kernel
theorem dX8_put_8 : decode cX8_put 8 = .ok (.imul, 1) := by decide +kernel
theorem dX8_put_9 : decode cX8_put 9 = .ok (.iload_n 1, 1) := by decide +kernel
theorem dX8_put_10 : decode cX8_put 10 = .ok (.iadd, 1) := by decide +kernel
theorem dX8_put_11 : decode cX8_put 11 = .ok (.istore_n 3, 1) := by decide +kernel
theorem dX8_put_12 : decode cX8_put 12 = .ok (.iload_n 1, 1) := by decide +kernel
theorem dX8_put_13 : decode cX8_put 13 = .ok (.aload_n 0, 1) := by decide +kernel
theorem dX8_put_14 : decode cX8_put 14 = .ok (.getfield 9, 3) := by decide +kernel
theorem dX8_put_17 : decode cX8_put 17 = .ok (.if_icmp .ge 23, 3) := by decide +kernel
theorem dX8_put_20 : decode cX8_put 20 = .ok (.iload_n 3, 1) := by decide +kernel
theorem dX8_put_21 : decode cX8_put 21 = .ok (.ifCond .lt 19, 3) := by decide +kernel
theorem dX8_put_24 : decode cX8_put 24 = .ok (.iload_n 3, 1) := by decide +kernel
theorem dX8_put_25 : decode cX8_put 25 = .ok (.aload_n 0, 1) := by decide +kernel
theorem dX8_put_26 : decode cX8_put 26 = .ok (.getfield 18, 3) := by decide +kernel
theorem dX8_put_29 : decode cX8_put 29 = .ok (.arraylength, 1) := by decide +kernel
theorem dX8_put_30 : decode cX8_put 30 = .ok (.if_icmp .ge 10, 3) := by decide +kernel
theorem dX8_put_33 : decode cX8_put 33 = .ok (.aload_n 0, 1) := by decide +kernel
theorem dX8_put_34 : decode cX8_put 34 = .ok (.getfield 18, 3) := by decide +kernel
theorem dX8_put_37 : decode cX8_put 37 = .ok (.iload_n 3, 1) := by decide +kernel
theorem dX8_put_38 : decode cX8_put 38 = .ok (.iload_n 2, 1) := by decide +kernel
theorem dX8_put_39 : decode cX8_put 39 = .ok (.iastore, 1) := by decide +kernel
theorem dX8_put_40 : decode cX8_put 40 = .ok (.return_, 1) := by decide +kernel
theorem q_263 : Cond.fieldLink RX8 22 RX8 "size" "I" ∈ zTB := zmem 263 (by decide +kernel) rfl
theorem q_259 : Cond.fieldLink RX8 9 RX8 "width" "I" ∈ zTB := zmem 259 (by decide +kernel) rfl
theorem q_269 : Cond.fieldLink RX8 18 RX8 "value" "[I" ∈ zTB := zmem 269 (by decide +kernel) rfl
def F_X8_put (i nn : Nat) (X Y : Nat → Int → Int) (R : Nat → Int → Option Nat) (a : Int) (b : Int) : Prop := (∀ i j, rI (X i j)) → (∀ i j, rL (Y i j)) → (((X (i) 0) ≤ a) → ((X) = cPt X i (a) (b))) ∧ ((¬ ((X (i) 0) ≤ a)) → ((rI (((X (i) 2) * (X (i) 0)) + a)) ∧ ((((((X (i) 2) * (X (i) 0)) + a) < 0) → ((X) = cPt X i (a) (b))) ∧ ((¬ ((((X (i) 2) * (X (i) 0)) + a) < 0)) → ((rI (((nn : Nat) : Int))) ∧ (((((nn : Nat) : Int) ≤ (((X (i) 2) * (X (i) 0)) + a)) → ((X) = cPt X i (a) (b))) ∧ ((¬ (((nn : Nat) : Int) ≤ (((X (i) 2) * (X (i) 0)) + a))) → ((0 ≤ (((X (i) 2) * (X (i) 0)) + a) ∧ (((X (i) 2) * (X (i) 0)) + a) < ((nn : Nat) : Int)) ∧ (∀ X7 : Nat → Int → Int, X7 = zU X (i + 1) (((X (i) 2) * (X (i) 0)) + a) (b) → (∀ i j, rI (X7 i j)) → ((X7) = cPt X i (a) (b)))))))))))
set_option maxHeartbeats 4000000 in
set_option maxRecDepth 100000 in
theorem w_X8_put {l : Launch} {D : va_G} {cy : Nat → ClassId} {bs N : Nat} {sa : Nat → Nat} {kd len : Nat → Nat} {X Y : Nat → Int → Int} {R : Nat → Int → Option Nat} {i nn : Nat} (hC : zRows N kd len R i nn) (hsm : len (i + 1) < 2147483648) (a : Int) (ha : rI a) (b : Int) (hb : rI b) (hF : F_X8_put i nn X Y R a b) : Met l yX8_put (.code yX8_put cX8_put 4 none :: zTB) (zRm 0 0) (zPc D cy bs sa N kd len X Y R [.ref (bs + (i)), .int (zI (a)), .int (zI (b))]) (zQv D cy bs N kd len (fun st => st.2.1 = Y ∧ st.2.2 = R ∧ ((st.1) = cPt X i (a) (b)))) 0 0 (zA bs) := by
  refine zstart (by decide) (Nat.le_of_ble_eq_true rfl) ?_
  intro p e s m args below meth c ls C hE hH hr hlk hnm hl hargs
  have hF := hF hH.2.2.1 hH.2.2.2
  have hS : va_S (zA bs) s.heap s.heap [] := va_S.rf
  have hl : lv_has ls 4 [(0, .ref (bs + (i))), (1, .int (zI (a))), (2, .int (zI (b)))] := hl
  refine lv_aload_n C.1 C.2.1 dX8_put_0 rfl (lv_at hl 0 rfl) ?_
  refine zg8_2 C hH (zRows_n0 hC) (zRows_k0 hC) q_263 dX8_put_1 ?_
  refine lv_aload_n C.1 C.2.1 dX8_put_4 rfl (lv_at hl 0 rfl) ?_
  refine zg8_0 C hH (zRows_n0 hC) (zRows_k0 hC) q_259 dX8_put_5 ?_
  refine zd_imul C dX8_put_8 ?_
  refine lv_iload_n C.1 C.2.1 dX8_put_9 rfl (lv_at hl 1 rfl) ?_
  refine zd_iadd C dX8_put_10 ?_
  refine lv_istore_n (lv' := [(3, .int (zI (((X (i) 2) * (X (i) 0)) + a))), (0, .ref (bs + (i))), (1, .int (zI (a))), (2, .int (zI (b)))]) C.1 C.2.1 dX8_put_11 rfl hl (by decide) rfl (fun ls hl => ?_)
  refine lv_iload_n C.1 C.2.1 dX8_put_12 rfl (lv_at hl 2 rfl) ?_
  refine lv_aload_n C.1 C.2.1 dX8_put_13 rfl (lv_at hl 1 rfl) ?_
  refine zg8_0 C hH (zRows_n0 hC) (zRows_k0 hC) q_259 dX8_put_14 ?_
  refine zd_icmp_ge C ha (hH.2.2.1 _ _) 40 dX8_put_17 (by decide) (fun c1 => ?_) (fun c1 => ?_)
  · have hF := hF.1 c1
    exact zd_vret C hr hlk hH hS (⟨rfl, rfl, hF⟩) dX8_put_40
  · have hF := hF.2 c1
    refine lv_iload_n C.1 C.2.1 dX8_put_20 rfl (lv_at hl 0 rfl) ?_
    obtain ⟨o3, hF⟩ := hF
    refine zd_if_lt C o3 40 dX8_put_21 (by decide) (fun c2 => ?_) (fun c2 => ?_)
    · have hF := hF.1 c2
      exact zd_vret C hr hlk hH hS (⟨rfl, rfl, hF⟩) dX8_put_40
    · have hF := hF.2 c2
      refine lv_iload_n C.1 C.2.1 dX8_put_24 rfl (lv_at hl 0 rfl) ?_
      refine lv_aload_n C.1 C.2.1 dX8_put_25 rfl (lv_at hl 1 rfl) ?_
      refine zg8_3 C hH (zRows_n0 hC) (zRows_k0 hC) q_269 (zRows_r1 hC) dX8_put_26 ?_
      refine zd_alen C hH (zRows_n1 hC) (t0 := 1) (by rw [(zRows_k1 hC)]; rfl) rfl rfl dX8_put_29 ?_
      rw [zRows_l1 hC]
      obtain ⟨o5, hF⟩ := hF
      refine zd_icmp_ge C o3 o5 40 dX8_put_30 (by decide) (fun c4 => ?_) (fun c4 => ?_)
      · have hF := hF.1 c4
        exact zd_vret C hr hlk hH hS (⟨rfl, rfl, hF⟩) dX8_put_40
      · have hF := hF.2 c4
        refine lv_aload_n C.1 C.2.1 dX8_put_33 rfl (lv_at hl 1 rfl) ?_
        refine zg8_3 C hH (zRows_n0 hC) (zRows_k0 hC) q_269 (zRows_r1 hC) dX8_put_34 ?_
        refine lv_iload_n C.1 C.2.1 dX8_put_37 rfl (lv_at hl 0 rfl) ?_
        refine lv_iload_n C.1 C.2.1 dX8_put_38 rfl (lv_at hl 3 rfl) ?_
        obtain ⟨o6, hF⟩ := hF
        refine zd_iast C hH hS (zRows_n1 hC) (zRows_k1 hC) o6.1 (by rw [zRows_l1 hC]; exact o6.2) hsm hb dX8_put_39 (fun H locs hH hS => ?_)
        obtain ⟨X7, eX7⟩ : ∃ z, z = zU X (i + 1) (((X (i) 2) * (X (i) 0)) + a) (b) := ⟨_, rfl⟩
        rw [← eX7] at hH
        have hF := hF X7 eX7 hH.2.2.1
        exact zd_vret C hr hlk hH hS (⟨rfl, rfl, hF⟩) dX8_put_40
theorem v_X8_put {X Y : Nat → Int → Int} {R : Nat → Int → Option Nat} {i nn : Nat} (a : Int) (ha : rI a) (b : Int) (hb : rI b) (hp : oRw X i nn ∧ X i 2 < X i 1 ∧ 0 ≤ a ∧ a ≤ 3) : F_X8_put i nn X Y R a b := by
  unfold F_X8_put
  intro hX hY
  obtain ⟨⟨hw, h2, h40, hnn⟩, hlt, ha0, ha3⟩ := hp
  have key : 0 ≤ X i 2 * X i 0 + a ∧ (a < X i 0 → X i 2 * X i 0 + a < nn) ∧ X i 2 * X i 0 + a < 1000 ∧ (nn : Int) ≤ 1000 := by
    rcases hw with e | e
    · rw [e] at hnn ⊢
      exact ⟨by omega, fun _ => by omega, by omega, by omega⟩
    · rw [e] at hnn ⊢
      exact ⟨by omega, fun _ => by omega, by omega, by omega⟩
  obtain ⟨k0, k1, k2, k3⟩ := key
  unfold cPt
  refine ⟨?_, ?_⟩
  · intro c1
    rw [if_neg (by omega)]
  intro c2
  refine ⟨?_, ?_⟩
  · first | omega | exact ⟨by omega, by omega⟩ | decide | assumption | exact ⟨by omega, by omega, by omega⟩ | exact ⟨by decide, by decide⟩
  refine ⟨?_, ?_⟩
  · intro c3
    exfalso
    omega
  intro c4
  refine ⟨?_, ?_⟩
  · first | omega | exact ⟨by omega, by omega⟩ | decide | assumption | exact ⟨by omega, by omega, by omega⟩ | exact ⟨by decide, by decide⟩
  refine ⟨?_, ?_⟩
  · intro c5
    exfalso
    have := k1 (by omega)
    omega
  intro c6
  refine ⟨?_, ?_⟩
  · first | omega | exact ⟨by omega, by omega⟩ | decide | assumption | exact ⟨by omega, by omega, by omega⟩ | exact ⟨by decide, by decide⟩
  intro X7
  intro eX7
  intro rX7
  rw [if_pos (by omega), eX7]
theorem c_X8_put {l : Launch} {D : va_G} {cy : Nat → ClassId} {bs N : Nat} {sa : Nat → Nat} {kd len : Nat → Nat} {X Y : Nat → Int → Int} {R : Nat → Int → Option Nat} {i nn : Nat} (hC : zRows N kd len R i nn) (hsm : len (i + 1) < 2147483648) (a : Int) (ha : rI a) (b : Int) (hb : rI b) (hp : oRw X i nn ∧ X i 2 < X i 1 ∧ 0 ≤ a ∧ a ≤ 3) : Met l yX8_put (.code yX8_put cX8_put 4 none :: zTB) (zRm 0 0) (zPc D cy bs sa N kd len X Y R [.ref (bs + (i)), .int (zI (a)), .int (zI (b))]) (zQv D cy bs N kd len (fun st => st.2.1 = Y ∧ st.2.2 = R ∧ ((st.1) = cPt X i (a) (b)))) 0 0 (zA bs) := w_X8_put hC hsm a ha b hb (v_X8_put a ha b hb hp)
abbrev cX8_add : ByteArray := prog_10_method_3_code
def yX8_add : MethodName := ⟨RX8, "add", "(IIII)V"⟩
theorem dX8_add_0 : decode cX8_add 0 = .ok (.aload_n 0, 1) := by decide +kernel
theorem dX8_add_1 : decode cX8_add 1 = .ok (.getfield 22, 3) := by decide +kernel
theorem dX8_add_4 : decode cX8_add 4 = .ok (.aload_n 0, 1) := by decide +kernel
theorem dX8_add_5 : decode cX8_add 5 = .ok (.getfield 15, 3) := by decide +kernel
theorem dX8_add_8 : decode cX8_add 8 = .ok (.if_icmp .lt 4, 3) := by decide +kernel
theorem dX8_add_11 : decode cX8_add 11 = .ok (.return_, 1) := by decide +kernel
theorem dX8_add_12 : decode cX8_add 12 = .ok (.aload_n 0, 1) := by decide +kernel
theorem dX8_add_13 : decode cX8_add 13 = .ok (.iconst 0, 1) := by decide +kernel
theorem dX8_add_14 : decode cX8_add 14 = .ok (.iload_n 1, 1) := by decide +kernel
theorem dX8_add_15 : decode cX8_add 15 = .ok (.invokevirtual 31, 3) := by decide +kernel
theorem dX8_add_18 : decode cX8_add 18 = .ok (.aload_n 0, 1) := by decide +kernel
theorem dX8_add_19 : decode cX8_add 19 = .ok (.iconst 1, 1) := by decide +kernel
theorem dX8_add_20 : decode cX8_add 20 = .ok (.iload_n 2, 1) := by decide +kernel
theorem dX8_add_21 : decode cX8_add 21 = .ok (.invokevirtual 31, 3) := by decide +kernel
theorem dX8_add_24 : decode cX8_add 24 = .ok (.aload_n 0, 1) := by decide +kernel
theorem dX8_add_25 : decode cX8_add 25 = .ok (.iconst 2, 1) := by decide +kernel
theorem dX8_add_26 : decode cX8_add 26 = .ok (.iload_n 3, 1) := by decide +kernel
theorem dX8_add_27 : decode cX8_add 27 = .ok (.invokevirtual 31, 3) := by decide +kernel
theorem dX8_add_30 : decode cX8_add 30 = .ok (.aload_n 0, 1) := by decide +kernel
theorem dX8_add_31 : decode cX8_add 31 = .ok (.iconst 3, 1) := by decide +kernel
theorem dX8_add_32 : decode cX8_add 32 = .ok (.iload 4, 2) := by decide +kernel
theorem dX8_add_34 : decode cX8_add 34 = .ok (.invokevirtual 31, 3) := by decide +kernel
theorem dX8_add_37 : decode cX8_add 37 = .ok (.aload_n 0, 1) := by decide +kernel
theorem dX8_add_38 : decode cX8_add 38 = .ok (.dup, 1) := by decide +kernel
theorem dX8_add_39 : decode cX8_add 39 = .ok (.getfield 22, 3) := by decide +kernel
theorem dX8_add_42 : decode cX8_add 42 = .ok (.iconst 1, 1) := by decide +kernel
theorem dX8_add_43 : decode cX8_add 43 = .ok (.iadd, 1) := by decide +kernel
theorem dX8_add_44 : decode cX8_add 44 = .ok (.putfield 22, 3) := by decide +kernel
theorem dX8_add_47 : decode cX8_add 47 = .ok (.return_, 1) := by decide +kernel
theorem q_261 : Cond.fieldLink RX8 15 RX8 "most" "I" ∈ zTB := zmem 261 (by decide +kernel) rfl
theorem q_779 : Cond.methodLink RX8 31 yX8_put ∈ zTB := zmem 779 (by decide +kernel) rfl
theorem q_781 : Cond.instanceMethod yX8_put ∈ zTB := zmem 781 (by decide +kernel) rfl
theorem q_12 : Cond.selects RX8 yX8_put yX8_put ∈ zTB := zmem 12 (by decide +kernel) rfl
theorem q_133 : Cond.initialized RX8 ∈ zTB := zmem 133 (by decide +kernel) rfl
theorem q_782 : Cond.code yX8_put cX8_put 4 none ∈ zTB := zmem 782 (by decide +kernel) rfl
theorem k_RX8_31 : zLv RX8 31 RX8 yX8_put cX8_put 4 none 2 := ⟨⟨q_779, q_781, q_12, q_133, q_782⟩, rfl, ⟨by decide, by decide⟩, by decide +kernel⟩
def F_X8_add (i nn : Nat) (X Y : Nat → Int → Int) (R : Nat → Int → Option Nat) (a : Int) (b : Int) (g : Int) (d : Int) : Prop := (∀ i j, rI (X i j)) → (∀ i j, rL (Y i j)) → (((X (i) 2) < (X (i) 1)) → ((oRw X i nn ∧ X i 2 < X i 1 ∧ 0 ≤ (0 : Int) ∧ (0 : Int) ≤ 3) ∧ (∀ X3 : Nat → Int → Int, (∀ i j, rI (X3 i j)) → ((X3) = cPt X i ((0 : Int)) (a)) → ((oRw X3 i nn ∧ X3 i 2 < X3 i 1 ∧ 0 ≤ (1 : Int) ∧ (1 : Int) ≤ 3) ∧ (∀ X5 : Nat → Int → Int, (∀ i j, rI (X5 i j)) → ((X5) = cPt X3 i ((1 : Int)) (b)) → ((oRw X5 i nn ∧ X5 i 2 < X5 i 1 ∧ 0 ≤ (2 : Int) ∧ (2 : Int) ≤ 3) ∧ (∀ X7 : Nat → Int → Int, (∀ i j, rI (X7 i j)) → ((X7) = cPt X5 i ((2 : Int)) (g)) → ((oRw X7 i nn ∧ X7 i 2 < X7 i 1 ∧ 0 ≤ (3 : Int) ∧ (3 : Int) ≤ 3) ∧ (∀ X9 : Nat → Int → Int, (∀ i j, rI (X9 i j)) → ((X9) = cPt X7 i ((3 : Int)) (d)) → ((rI ((X9 (i) 2) + 1)) ∧ (∀ X11 : Nat → Int → Int, X11 = zU X9 (i) 2 ((X9 (i) 2) + 1) → (∀ i j, rI (X11 i j)) → ((X11) = cRw X i (a) (b) (g) (d))))))))))))) ∧ ((¬ ((X (i) 2) < (X (i) 1))) → ((X) = cRw X i (a) (b) (g) (d)))
set_option maxHeartbeats 4000000 in
set_option maxRecDepth 100000 in
theorem w_X8_add {l : Launch} {D : va_G} {cy : Nat → ClassId} {bs N : Nat} {sa : Nat → Nat} {kd len : Nat → Nat} {X Y : Nat → Int → Int} {R : Nat → Int → Option Nat} {i nn : Nat} (hC : zRows N kd len R i nn) (hsm : len (i + 1) < 2147483648) (a : Int) (ha : rI a) (b : Int) (hb : rI b) (g : Int) (hg : rI g) (d : Int) (hd : rI d) (hF : F_X8_add i nn X Y R a b g d) : Met l yX8_add (.code yX8_add cX8_add 5 none :: zTB) (zRm 1 23) (zPc D cy bs sa N kd len X Y R [.ref (bs + (i)), .int (zI (a)), .int (zI (b)), .int (zI (g)), .int (zI (d))]) (zQv D cy bs N kd len (fun st => st.2.1 = Y ∧ st.2.2 = R ∧ ((st.1) = cRw X i (a) (b) (g) (d)))) 0 0 (zA bs) := by
  refine zstart (by decide) (Nat.le_of_ble_eq_true rfl) ?_
  intro p e s m args below meth c ls C hE hH hr hlk hnm hl hargs
  have hF := hF hH.2.2.1 hH.2.2.2
  have hS : va_S (zA bs) s.heap s.heap [] := va_S.rf
  have hl : lv_has ls 5 [(0, .ref (bs + (i))), (1, .int (zI (a))), (2, .int (zI (b))), (3, .int (zI (g))), (4, .int (zI (d)))] := hl
  refine lv_aload_n C.1 C.2.1 dX8_add_0 rfl (lv_at hl 0 rfl) ?_
  refine zg8_2 C hH (zRows_n0 hC) (zRows_k0 hC) q_263 dX8_add_1 ?_
  refine lv_aload_n C.1 C.2.1 dX8_add_4 rfl (lv_at hl 0 rfl) ?_
  refine zg8_1 C hH (zRows_n0 hC) (zRows_k0 hC) q_261 dX8_add_5 ?_
  refine zd_icmp_lt C (hH.2.2.1 _ _) (hH.2.2.1 _ _) 12 dX8_add_8 (by decide) (fun c1 => ?_) (fun c1 => ?_)
  · have hF := hF.1 c1
    refine lv_aload_n C.1 C.2.1 dX8_add_12 rfl (lv_at hl 0 rfl) ?_
    refine zd_iconst C dX8_add_13 ?_
    refine lv_iload_n C.1 C.2.1 dX8_add_14 rfl (lv_at hl 1 rfl) ?_
    obtain ⟨o2, hF⟩ := hF
    refine zgov (zrunV (As := [.int (zI (0)), .int (zI (a))]) (rest := []) C hE hH hS hl.1 (c_X8_put (l := l) hC hsm (0) (by decide) (a) ha o2) k_RX8_31 ⟨Nat.le_of_ble_eq_true rfl, Nat.le_of_ble_eq_true rfl⟩ (zRows_n0 hC) (zRows_k0 hC) rfl rfl rfl (Nat.le_of_ble_eq_true rfl) dX8_add_15 ⟨Nat.zero_le _, Nat.zero_le _⟩) hS (fun X3 Yq Rq H locs hq hH hS => ?_)
    obtain ⟨h9Y, h9R, hq⟩ := hq
    dsimp only at h9Y h9R
    rw [h9Y, h9R] at hH
    have hF := hF X3 hH.2.2.1 hq
    refine lv_aload_n C.1 C.2.1 dX8_add_18 rfl (lv_at hl 0 rfl) ?_
    refine zd_iconst C dX8_add_19 ?_
    refine lv_iload_n C.1 C.2.1 dX8_add_20 rfl (lv_at hl 2 rfl) ?_
    obtain ⟨o4, hF⟩ := hF
    refine zgov (zrunV (As := [.int (zI (1)), .int (zI (b))]) (rest := []) C hE hH hS hl.1 (c_X8_put (l := l) hC hsm (1) (by decide) (b) hb o4) k_RX8_31 ⟨Nat.le_of_ble_eq_true rfl, Nat.le_of_ble_eq_true rfl⟩ (zRows_n0 hC) (zRows_k0 hC) rfl rfl rfl (Nat.le_of_ble_eq_true rfl) dX8_add_21 ⟨Nat.zero_le _, Nat.zero_le _⟩) hS (fun X5 Yq Rq H locs hq hH hS => ?_)
    obtain ⟨h9Y, h9R, hq⟩ := hq
    dsimp only at h9Y h9R
    rw [h9Y, h9R] at hH
    have hF := hF X5 hH.2.2.1 hq
    refine lv_aload_n C.1 C.2.1 dX8_add_24 rfl (lv_at hl 0 rfl) ?_
    refine zd_iconst C dX8_add_25 ?_
    refine lv_iload_n C.1 C.2.1 dX8_add_26 rfl (lv_at hl 3 rfl) ?_
    obtain ⟨o6, hF⟩ := hF
    refine zgov (zrunV (As := [.int (zI (2)), .int (zI (g))]) (rest := []) C hE hH hS hl.1 (c_X8_put (l := l) hC hsm (2) (by decide) (g) hg o6) k_RX8_31 ⟨Nat.le_of_ble_eq_true rfl, Nat.le_of_ble_eq_true rfl⟩ (zRows_n0 hC) (zRows_k0 hC) rfl rfl rfl (Nat.le_of_ble_eq_true rfl) dX8_add_27 ⟨Nat.zero_le _, Nat.zero_le _⟩) hS (fun X7 Yq Rq H locs hq hH hS => ?_)
    obtain ⟨h9Y, h9R, hq⟩ := hq
    dsimp only at h9Y h9R
    rw [h9Y, h9R] at hH
    have hF := hF X7 hH.2.2.1 hq
    refine lv_aload_n C.1 C.2.1 dX8_add_30 rfl (lv_at hl 0 rfl) ?_
    refine zd_iconst C dX8_add_31 ?_
    refine lv_iload C.1 C.2.1 dX8_add_32 (lv_at hl 4 rfl) ?_
    obtain ⟨o8, hF⟩ := hF
    refine zgov (zrunV (As := [.int (zI (3)), .int (zI (d))]) (rest := []) C hE hH hS hl.1 (c_X8_put (l := l) hC hsm (3) (by decide) (d) hd o8) k_RX8_31 ⟨Nat.le_of_ble_eq_true rfl, Nat.le_of_ble_eq_true rfl⟩ (zRows_n0 hC) (zRows_k0 hC) rfl rfl rfl (Nat.le_of_ble_eq_true rfl) dX8_add_34 ⟨Nat.zero_le _, Nat.zero_le _⟩) hS (fun X9 Yq Rq H locs hq hH hS => ?_)
    obtain ⟨h9Y, h9R, hq⟩ := hq
    dsimp only at h9Y h9R
    rw [h9Y, h9R] at hH
    have hF := hF X9 hH.2.2.1 hq
    refine lv_aload_n C.1 C.2.1 dX8_add_37 rfl (lv_at hl 0 rfl) ?_
    refine lv_dup C.1 C.2.1 dX8_add_38 rfl ?_
    refine zg8_2 C hH (zRows_n0 hC) (zRows_k0 hC) q_263 dX8_add_39 ?_
    refine zd_iconst C dX8_add_42 ?_
    refine zd_iadd C dX8_add_43 ?_
    obtain ⟨o10, hF⟩ := hF
    refine zp8_2 C hH hS (zRows_n0 hC) (zRows_k0 hC) q_263 o10 dX8_add_44 (fun H locs hH hS => ?_)
    obtain ⟨X11, eX11⟩ : ∃ z, z = zU X9 (i) 2 ((X9 (i) 2) + 1) := ⟨_, rfl⟩
    rw [← eX11] at hH
    have hF := hF X11 eX11 hH.2.2.1
    exact zd_vret C hr hlk hH hS (⟨rfl, rfl, hF⟩) dX8_add_47
  · have hF := hF.2 c1
    exact zd_vret C hr hlk hH hS (⟨rfl, rfl, hF⟩) dX8_add_11
theorem v_X8_add {X Y : Nat → Int → Int} {R : Nat → Int → Option Nat} {i nn : Nat} (a : Int) (ha : rI a) (b : Int) (hb : rI b) (g : Int) (hg : rI g) (d : Int) (hd : rI d) (hp : oRw X i nn) : F_X8_add i nn X Y R a b g d := by
  unfold F_X8_add
  intro hX hY
  obtain ⟨hw, h2x, h40, hnn⟩ := id hp
  refine ⟨?_, ?_⟩
  · intro c1
    refine ⟨?_, ?_⟩
    · exact ⟨hp, c1, by decide, by decide⟩
    intro X3
    intro rX3
    intro h1
    have o3 : ∀ z, z ≠ i + 1 → X3 z = X z := fun z hz => by
      rw [h1]
      exact cPt_o z hz
    have r3 : oRw X3 i nn := by
      unfold oRw
      rw [o3 i (by omega)]
      exact hp
    refine ⟨?_, ?_⟩
    · exact ⟨r3, by rw [o3 i (by omega)]; exact c1, by decide, by decide⟩
    intro X5
    intro rX5
    intro h2
    have o5 : ∀ z, z ≠ i + 1 → X5 z = X z := fun z hz => by
      rw [h2]
      exact (cPt_o z hz).trans (o3 z hz)
    have r5 : oRw X5 i nn := by
      unfold oRw
      rw [o5 i (by omega)]
      exact hp
    refine ⟨?_, ?_⟩
    · exact ⟨r5, by rw [o5 i (by omega)]; exact c1, by decide, by decide⟩
    intro X7
    intro rX7
    intro h3
    have o7 : ∀ z, z ≠ i + 1 → X7 z = X z := fun z hz => by
      rw [h3]
      exact (cPt_o z hz).trans (o5 z hz)
    have r7 : oRw X7 i nn := by
      unfold oRw
      rw [o7 i (by omega)]
      exact hp
    refine ⟨?_, ?_⟩
    · exact ⟨r7, by rw [o7 i (by omega)]; exact c1, by decide, by decide⟩
    intro X9
    intro rX9
    intro h4
    have o9 : ∀ z, z ≠ i + 1 → X9 z = X z := fun z hz => by
      rw [h4]
      exact (cPt_o z hz).trans (o7 z hz)
    have r9 : oRw X9 i nn := by
      unfold oRw
      rw [o9 i (by omega)]
      exact hp
    refine ⟨?_, ?_⟩
    · rw [o9 i (by omega)]
      exact ⟨by omega, by omega⟩
    intro X11
    intro eX11
    intro rX11
    unfold cRw
    rw [if_neg (by omega), eX11, o9 i (by omega), h4, h3, h2, h1]
  intro c2
  unfold cRw
  rw [if_pos (by omega)]
theorem c_X8_add {l : Launch} {D : va_G} {cy : Nat → ClassId} {bs N : Nat} {sa : Nat → Nat} {kd len : Nat → Nat} {X Y : Nat → Int → Int} {R : Nat → Int → Option Nat} {i nn : Nat} (hC : zRows N kd len R i nn) (hsm : len (i + 1) < 2147483648) (a : Int) (ha : rI a) (b : Int) (hb : rI b) (g : Int) (hg : rI g) (d : Int) (hd : rI d) (hp : oRw X i nn) : Met l yX8_add (.code yX8_add cX8_add 5 none :: zTB) (zRm 1 23) (zPc D cy bs sa N kd len X Y R [.ref (bs + (i)), .int (zI (a)), .int (zI (b)), .int (zI (g)), .int (zI (d))]) (zQv D cy bs N kd len (fun st => st.2.1 = Y ∧ st.2.2 = R ∧ ((st.1) = cRw X i (a) (b) (g) (d)))) 0 0 (zA bs) := w_X8_add hC hsm a ha b hb g hg d hd (v_X8_add a ha b hb g hg d hd hp)
abbrev cX8_part : ByteArray := prog_10_method_5_code
def yX8_part : MethodName := ⟨RX8, "part", "(II)I"⟩
theorem dX8_part_0 : decode cX8_part 0 = .ok (.iload_n 1, 1) := by decide +kernel
theorem dX8_part_1 : decode cX8_part 1 = .ok (.aload_n 0, 1) := by decide +kernel
theorem dX8_part_2 : decode cX8_part 2 = .ok (.getfield 9, 3) := by decide +kernel
theorem dX8_part_5 : decode cX8_part 5 = .ok (.imul, 1) := by decide +kernel
theorem dX8_part_6 : decode cX8_part 6 = .ok (.iload_n 2, 1) := by decide +kernel
theorem dX8_part_7 : decode cX8_part 7 = .ok (.iadd, 1) := by decide +kernel
theorem dX8_part_8 : decode cX8_part 8 = .ok (.istore_n 3, 1) := by decide +kernel
theorem dX8_part_9 : decode cX8_part 9 = .ok (.iload_n 3, 1) := by decide +kernel
theorem dX8_part_10 : decode cX8_part 10 = .ok (.ifCond .lt 21, 3) := by decide +kernel
theorem dX8_part_13 : decode cX8_part 13 = .ok (.iload_n 3, 1) := by decide +kernel
theorem dX8_part_14 : decode cX8_part 14 = .ok (.aload_n 0, 1) := by decide +kernel
theorem dX8_part_15 : decode cX8_part 15 = .ok (.getfield 18, 3) := by decide +kernel
theorem dX8_part_18 : decode cX8_part 18 = .ok (.arraylength, 1) := by decide +kernel
theorem dX8_part_19 : decode cX8_part 19 = .ok (.if_icmp .ge 12, 3) := by decide +kernel
theorem dX8_part_22 : decode cX8_part 22 = .ok (.aload_n 0, 1) := by decide +kernel
theorem dX8_part_23 : decode cX8_part 23 = .ok (.getfield 18, 3) := by decide +kernel
theorem dX8_part_26 : decode cX8_part 26 = .ok (.iload_n 3, 1) := by decide +kernel
theorem dX8_part_27 : decode cX8_part 27 = .ok (.iaload, 1) := by decide +kernel
theorem dX8_part_28 : decode cX8_part 28 = .ok (.goto 4, 3) := by decide +kernel
theorem dX8_part_31 : decode cX8_part 31 = .ok (.iconst (-1), 1) := by decide +kernel
theorem dX8_part_32 : decode cX8_part 32 = .ok (.ireturn, 1) := by decide +kernel
def F_X8_part (i nn : Nat) (X Y : Nat → Int → Int) (R : Nat → Int → Option Nat) (a : Int) (b : Int) : Prop := (∀ i j, rI (X i j)) → (∀ i j, rL (Y i j)) → (rI ((a * (X (i) 0)) + b)) ∧ (((((a * (X (i) 0)) + b) < 0) → ((-1) = X (i + 1) (a * X i 0 + b))) ∧ ((¬ (((a * (X (i) 0)) + b) < 0)) → ((rI (((nn : Nat) : Int))) ∧ (((((nn : Nat) : Int) ≤ ((a * (X (i) 0)) + b)) → ((-1) = X (i + 1) (a * X i 0 + b))) ∧ ((¬ (((nn : Nat) : Int) ≤ ((a * (X (i) 0)) + b))) → ((0 ≤ ((a * (X (i) 0)) + b) ∧ ((a * (X (i) 0)) + b) < ((nn : Nat) : Int)) ∧ (X (i + 1) ((a * (X (i) 0)) + b) = X (i + 1) (a * X i 0 + b))))))))
set_option maxHeartbeats 4000000 in
set_option maxRecDepth 100000 in
theorem w_X8_part {l : Launch} {D : va_G} {cy : Nat → ClassId} {bs N : Nat} {sa : Nat → Nat} {kd len : Nat → Nat} {X Y : Nat → Int → Int} {R : Nat → Int → Option Nat} {i nn : Nat} (hC : zRows N kd len R i nn) (hsm : len (i + 1) < 2147483648) (a : Int) (ha : rI a) (b : Int) (hb : rI b) (hF : F_X8_part i nn X Y R a b) : Met l yX8_part (.code yX8_part cX8_part 4 (some .int) :: zTB) (zRm 0 0) (zPc D cy bs sa N kd len X Y R [.ref (bs + (i)), .int (zI (a)), .int (zI (b))]) (zQi D cy bs N kd len (fun r st => r = X (i + 1) (a * X i 0 + b) ∧ st = (X, Y, R))) 0 0 (zA bs) := by
  refine zstart (by decide) (Nat.le_of_ble_eq_true rfl) ?_
  intro p e s m args below meth c ls C hE hH hr hlk hnm hl hargs
  have hF := hF hH.2.2.1 hH.2.2.2
  have hS : va_S (zA bs) s.heap s.heap [] := va_S.rf
  have hl : lv_has ls 4 [(0, .ref (bs + (i))), (1, .int (zI (a))), (2, .int (zI (b)))] := hl
  refine lv_iload_n C.1 C.2.1 dX8_part_0 rfl (lv_at hl 1 rfl) ?_
  refine lv_aload_n C.1 C.2.1 dX8_part_1 rfl (lv_at hl 0 rfl) ?_
  refine zg8_0 C hH (zRows_n0 hC) (zRows_k0 hC) q_259 dX8_part_2 ?_
  refine zd_imul C dX8_part_5 ?_
  refine lv_iload_n C.1 C.2.1 dX8_part_6 rfl (lv_at hl 2 rfl) ?_
  refine zd_iadd C dX8_part_7 ?_
  refine lv_istore_n (lv' := [(3, .int (zI ((a * (X (i) 0)) + b))), (0, .ref (bs + (i))), (1, .int (zI (a))), (2, .int (zI (b)))]) C.1 C.2.1 dX8_part_8 rfl hl (by decide) rfl (fun ls hl => ?_)
  refine lv_iload_n C.1 C.2.1 dX8_part_9 rfl (lv_at hl 0 rfl) ?_
  obtain ⟨o2, hF⟩ := hF
  refine zd_if_lt C o2 31 dX8_part_10 (by decide) (fun c1 => ?_) (fun c1 => ?_)
  · have hF := hF.1 c1
    refine zd_iconst C dX8_part_31 ?_
    exact zd_iret C hr hlk hH hS (by decide) (⟨hF, rfl⟩) dX8_part_32
  · have hF := hF.2 c1
    refine lv_iload_n C.1 C.2.1 dX8_part_13 rfl (lv_at hl 0 rfl) ?_
    refine lv_aload_n C.1 C.2.1 dX8_part_14 rfl (lv_at hl 1 rfl) ?_
    refine zg8_3 C hH (zRows_n0 hC) (zRows_k0 hC) q_269 (zRows_r1 hC) dX8_part_15 ?_
    refine zd_alen C hH (zRows_n1 hC) (t0 := 1) (by rw [(zRows_k1 hC)]; rfl) rfl rfl dX8_part_18 ?_
    rw [zRows_l1 hC]
    obtain ⟨o4, hF⟩ := hF
    refine zd_icmp_ge C o2 o4 31 dX8_part_19 (by decide) (fun c3 => ?_) (fun c3 => ?_)
    · have hF := hF.1 c3
      refine zd_iconst C dX8_part_31 ?_
      exact zd_iret C hr hlk hH hS (by decide) (⟨hF, rfl⟩) dX8_part_32
    · have hF := hF.2 c3
      refine lv_aload_n C.1 C.2.1 dX8_part_22 rfl (lv_at hl 1 rfl) ?_
      refine zg8_3 C hH (zRows_n0 hC) (zRows_k0 hC) q_269 (zRows_r1 hC) dX8_part_23 ?_
      refine lv_iload_n C.1 C.2.1 dX8_part_26 rfl (lv_at hl 0 rfl) ?_
      obtain ⟨o5, hF⟩ := hF
      refine zd_iald C hH (zRows_n1 hC) (zRows_k1 hC) o5.1 (by rw [zRows_l1 hC]; exact o5.2) hsm dX8_part_27 ?_
      refine lv_goto (tgt := 32) C.1 C.2.1 dX8_part_28 (by decide) ?_
      exact zd_iret C hr hlk hH hS (hH.2.2.1 _ _) (⟨hF, rfl⟩) dX8_part_32
theorem v_X8_part {X Y : Nat → Int → Int} {R : Nat → Int → Option Nat} {i nn : Nat} (a : Int) (ha : rI a) (b : Int) (hb : rI b) (hp : oRw X i nn ∧ (0 ≤ a ∧ a < X i 1) ∧ 0 ≤ b ∧ b < X i 0) : F_X8_part i nn X Y R a b := by
  unfold F_X8_part
  intro hX hY
  obtain ⟨⟨hw, h2, h40, hnn⟩, ⟨a0, a1⟩, b0, b1⟩ := hp
  have key : 0 ≤ a * X i 0 + b ∧ a * X i 0 + b < nn ∧ (nn : Int) ≤ 1000 := by
    rcases hw with e | e
    · rw [e] at hnn b1 ⊢
      exact ⟨by omega, by omega, by omega⟩
    · rw [e] at hnn b1 ⊢
      exact ⟨by omega, by omega, by omega⟩
  obtain ⟨k0, k1, k2⟩ := key
  refine ⟨?_, ?_⟩
  · first | omega | exact ⟨by omega, by omega⟩ | decide | assumption | exact ⟨by omega, by omega, by omega⟩ | exact ⟨by decide, by decide⟩
  refine ⟨?_, ?_⟩
  · intro c1
    exfalso
    omega
  intro c2
  refine ⟨?_, ?_⟩
  · first | omega | exact ⟨by omega, by omega⟩ | decide | assumption | exact ⟨by omega, by omega, by omega⟩ | exact ⟨by decide, by decide⟩
  refine ⟨?_, ?_⟩
  · intro c3
    exfalso
    omega
  intro c4
  refine ⟨?_, ?_⟩
  · first | omega | exact ⟨by omega, by omega⟩ | decide | assumption | exact ⟨by omega, by omega, by omega⟩ | exact ⟨by decide, by decide⟩
  rfl
theorem c_X8_part {l : Launch} {D : va_G} {cy : Nat → ClassId} {bs N : Nat} {sa : Nat → Nat} {kd len : Nat → Nat} {X Y : Nat → Int → Int} {R : Nat → Int → Option Nat} {i nn : Nat} (hC : zRows N kd len R i nn) (hsm : len (i + 1) < 2147483648) (a : Int) (ha : rI a) (b : Int) (hb : rI b) (hp : oRw X i nn ∧ (0 ≤ a ∧ a < X i 1) ∧ 0 ≤ b ∧ b < X i 0) : Met l yX8_part (.code yX8_part cX8_part 4 (some .int) :: zTB) (zRm 0 0) (zPc D cy bs sa N kd len X Y R [.ref (bs + (i)), .int (zI (a)), .int (zI (b))]) (zQi D cy bs N kd len (fun r st => r = X (i + 1) (a * X i 0 + b) ∧ st = (X, Y, R))) 0 0 (zA bs) := w_X8_part hC hsm a ha b hb (v_X8_part a ha b hb hp)
/-- whether a pay can be done -/
def cPk (X : Nat → Int → Int) (i : Nat) (a b g d : Int) : Bool := decide (0 ≤ a ∧ a < X i 0 ∧ a < 6) && decide (0 ≤ b ∧ b < X i 0 ∧ b < 6) && decide (g + d ≤ X (i + 1) a)
def cPa (X : Nat → Int → Int) (i : Nat) (a b g d : Int) : Nat → Int → Int := zU (zU X (i + 1) a (X (i + 1) a - (g + d))) (i + 1) b (zU X (i + 1) a (X (i + 1) a - (g + d)) (i + 1) b + g)
abbrev cX5_pay : ByteArray := prog_7_method_5_code
def yX5_pay : MethodName := ⟨RX5, "pay", "(IIII)Z"⟩
theorem dX5_pay_0 : decode cX5_pay 0 = .ok (.aload_n 0, 1) := by decide +kernel
theorem dX5_pay_1 : decode cX5_pay 1 = .ok (.iload_n 1, 1) := by decide +kernel
theorem dX5_pay_2 : decode cX5_pay 2 = .ok (.invokevirtual 31, 3) := by decide +kernel
theorem dX5_pay_5 : decode cX5_pay 5 = .ok (.ifCond .eq 24, 3) := by decide +kernel
theorem dX5_pay_8 : decode cX5_pay 8 = .ok (.aload_n 0, 1) := by decide +kernel
theorem dX5_pay_9 : decode cX5_pay 9 = .ok (.iload_n 2, 1) := by decide +kernel
theorem dX5_pay_10 : decode cX5_pay 10 = .ok (.invokevirtual 31, 3) := by decide +kernel
theorem dX5_pay_13 : decode cX5_pay 13 = .ok (.ifCond .eq 16, 3) := by decide +kernel
theorem dX5_pay_16 : decode cX5_pay 16 = .ok (.aload_n 0, 1) := by decide +kernel
theorem dX5_pay_17 : decode cX5_pay 17 = .ok (.getfield 9, 3) := by decide +kernel
theorem dX5_pay_20 : decode cX5_pay 20 = .ok (.iload_n 1, 1) := by decide +kernel
theorem dX5_pay_21 : decode cX5_pay 21 = .ok (.iaload, 1) := by decide +kernel
theorem dX5_pay_22 : decode cX5_pay 22 = .ok (.iload_n 3, 1) := by decide +kernel
theorem dX5_pay_23 : decode cX5_pay 23 = .ok (.iload 4, 2) := by decide +kernel
theorem dX5_pay_25 : decode cX5_pay 25 = .ok (.iadd, 1) := by decide +kernel
theorem dX5_pay_26 : decode cX5_pay 26 = .ok (.if_icmp .ge 5, 3) := by decide +kernel
theorem dX5_pay_29 : decode cX5_pay 29 = .ok (.iconst 0, 1) := by decide +kernel
theorem dX5_pay_30 : decode cX5_pay 30 = .ok (.ireturn, 1) := by decide +kernel
theorem dX5_pay_31 : decode cX5_pay 31 = .ok (.aload_n 0, 1) := by decide +kernel
theorem dX5_pay_32 : decode cX5_pay 32 = .ok (.getfield 9, 3) := by decide +kernel
theorem dX5_pay_35 : decode cX5_pay 35 = .ok (.iload_n 1, 1) := by decide +kernel
theorem dX5_pay_36 : decode cX5_pay 36 = .ok (.dup2, 1) := by decide +kernel
theorem dX5_pay_37 : decode cX5_pay 37 = .ok (.iaload, 1) := by decide +kernel
theorem dX5_pay_38 : decode cX5_pay 38 = .ok (.iload_n 3, 1) := by decide +kernel
theorem dX5_pay_39 : decode cX5_pay 39 = .ok (.iload 4, 2) := by decide +kernel
theorem dX5_pay_41 : decode cX5_pay 41 = .ok (.iadd, 1) := by decide +kernel
theorem dX5_pay_42 : decode cX5_pay 42 = .ok (.isub, 1) := by decide +kernel
theorem dX5_pay_43 : decode cX5_pay 43 = .ok (.iastore, 1) := by decide +kernel
theorem dX5_pay_44 : decode cX5_pay 44 = .ok (.aload_n 0, 1) := by decide +kernel
theorem dX5_pay_45 : decode cX5_pay 45 = .ok (.getfield 9, 3) := by decide +kernel
theorem dX5_pay_48 : decode cX5_pay 48 = .ok (.iload_n 2, 1) := by decide +kernel
theorem dX5_pay_49 : decode cX5_pay 49 = .ok (.dup2, 1) := by decide +kernel
theorem dX5_pay_50 : decode cX5_pay 50 = .ok (.iaload, 1) := by decide +kernel
theorem dX5_pay_51 : decode cX5_pay 51 = .ok (.iload_n 3, 1) := by decide +kernel
theorem dX5_pay_52 : decode cX5_pay 52 = .ok (.iadd, 1) := by decide +kernel
theorem dX5_pay_53 : decode cX5_pay 53 = .ok (.iastore, 1) := by decide +kernel
theorem dX5_pay_54 : decode cX5_pay 54 = .ok (.iconst 1, 1) := by decide +kernel
theorem dX5_pay_55 : decode cX5_pay 55 = .ok (.ireturn, 1) := by decide +kernel
theorem q_952 : Cond.methodLink RX5 31 yX5_has ∈ zTB := zmem 952 (by decide +kernel) rfl
theorem q_953 : Cond.instanceMethod yX5_has ∈ zTB := zmem 953 (by decide +kernel) rfl
theorem q_954 : Cond.selects RX5 yX5_has yX5_has ∈ zTB := zmem 954 (by decide +kernel) rfl
theorem q_136 : Cond.initialized RX5 ∈ zTB := zmem 136 (by decide +kernel) rfl
theorem q_955 : Cond.code yX5_has cX5_has 2 (some .boolean) ∈ zTB := zmem 955 (by decide +kernel) rfl
theorem k_RX5_31 : zLv RX5 31 RX5 yX5_has cX5_has 2 (some .boolean) 1 := ⟨⟨q_952, q_953, q_954, q_136, q_955⟩, rfl, ⟨by decide, by decide⟩, by decide +kernel⟩
theorem q_383 : Cond.fieldLink RX5 9 RX5 "in" "[I" ∈ zTB := zmem 383 (by decide +kernel) rfl
def F_X5_pay (i : Nat) (X Y : Nat → Int → Int) (R : Nat → Int → Option Nat) (a : Int) (b : Int) (g : Int) (d : Int) : Prop := (∀ i j, rI (X i j)) → (∀ i j, rL (Y i j)) → (((decide (0 ≤ (a) ∧ (a) < X i 0 ∧ (a) < 6)) = false) → (false = cPk X i (a) (b) (g) (d) ∧ (false = false → (X) = X) ∧ (false = true → (X) = cPa X i (a) (b) (g) (d)))) ∧ (((decide (0 ≤ (a) ∧ (a) < X i 0 ∧ (a) < 6)) = true) → ((((decide (0 ≤ (b) ∧ (b) < X i 0 ∧ (b) < 6)) = false) → (false = cPk X i (a) (b) (g) (d) ∧ (false = false → (X) = X) ∧ (false = true → (X) = cPa X i (a) (b) (g) (d)))) ∧ (((decide (0 ≤ (b) ∧ (b) < X i 0 ∧ (b) < 6)) = true) → ((0 ≤ a ∧ a < 6) ∧ ((rI (g + d)) ∧ ((((g + d) ≤ (X (i + 1) (a))) → ((0 ≤ a ∧ a < 6) ∧ ((0 ≤ a ∧ a < 6) ∧ ((rI ((X (i + 1) (a)) - (g + d))) ∧ (∀ X9 : Nat → Int → Int, X9 = zU X (i + 1) (a) ((X (i + 1) (a)) - (g + d)) → (∀ i j, rI (X9 i j)) → ((0 ≤ b ∧ b < 6) ∧ ((0 ≤ b ∧ b < 6) ∧ ((rI ((X9 (i + 1) (b)) + g)) ∧ (∀ X13 : Nat → Int → Int, X13 = zU X9 (i + 1) (b) ((X9 (i + 1) (b)) + g) → (∀ i j, rI (X13 i j)) → (true = cPk X i (a) (b) (g) (d) ∧ (true = false → (X13) = X) ∧ (true = true → (X13) = cPa X i (a) (b) (g) (d)))))))))))) ∧ ((¬ ((g + d) ≤ (X (i + 1) (a)))) → (false = cPk X i (a) (b) (g) (d) ∧ (false = false → (X) = X) ∧ (false = true → (X) = cPa X i (a) (b) (g) (d))))))))))
set_option maxHeartbeats 4000000 in
set_option maxRecDepth 100000 in
theorem w_X5_pay {l : Launch} {D : va_G} {cy : Nat → ClassId} {bs N : Nat} {sa : Nat → Nat} {kd len : Nat → Nat} {X Y : Nat → Int → Int} {R : Nat → Int → Option Nat} {i : Nat} (hC : zLedger N kd len R i) (a : Int) (ha : rI a) (b : Int) (hb : rI b) (g : Int) (hg : rI g) (d : Int) (hd : rI d) (hF : F_X5_pay i X Y R a b g d) : Met l yX5_pay (.code yX5_pay cX5_pay 5 (some .boolean) :: zTB) (zRm 1 21) (zPc D cy bs sa N kd len X Y R [.ref (bs + (i)), .int (zI (a)), .int (zI (b)), .int (zI (g)), .int (zI (d))]) (zQi D cy bs N kd len (fun r st => st.2.1 = Y ∧ st.2.2 = R ∧ ∃ rb : Bool, r = bz rb ∧ (rb = cPk X i (a) (b) (g) (d) ∧ (rb = false → (st.1) = X) ∧ (rb = true → (st.1) = cPa X i (a) (b) (g) (d))))) 0 0 (zA bs) := by
  refine zstart (by decide) (Nat.le_of_ble_eq_true rfl) ?_
  intro p e s m args below meth c ls C hE hH hr hlk hnm hl hargs
  have hF := hF hH.2.2.1 hH.2.2.2
  have hS : va_S (zA bs) s.heap s.heap [] := va_S.rf
  have hl : lv_has ls 5 [(0, .ref (bs + (i))), (1, .int (zI (a))), (2, .int (zI (b))), (3, .int (zI (g))), (4, .int (zI (d)))] := hl
  refine lv_aload_n C.1 C.2.1 dX5_pay_0 rfl (lv_at hl 0 rfl) ?_
  refine lv_iload_n C.1 C.2.1 dX5_pay_1 rfl (lv_at hl 1 rfl) ?_
  refine zgoi (zrunV (As := [.int (zI (a))]) (rest := []) C hE hH hS hl.1 (c_X5_has (l := l) hC (a) ha) k_RX5_31 ⟨Nat.le_of_ble_eq_true rfl, Nat.le_of_ble_eq_true rfl⟩ (zLedger_n0 hC) (zLedger_k0 hC) rfl rfl rfl (Nat.le_of_ble_eq_true rfl) dX5_pay_2 ⟨Nat.zero_le _, Nat.zero_le _⟩) hS (fun rq Xq Yq Rq H locs hrq hq hH hS => ?_)
  obtain ⟨h91, h92⟩ := hq
  have h93 : Xq = X := congrArg (fun z => z.1) h92
  have h94 : Yq = Y := congrArg (fun z => z.2.1) h92
  have h95 : Rq = R := congrArg (fun z => z.2.2) h92
  rw [h93, h94, h95] at hH
  subst h91
  refine zd_ifB_eq C 29 dX5_pay_5 (by decide) (fun c1 => ?_) (fun c1 => ?_)
  · have hF := hF.1 c1
    refine zd_iconst C dX5_pay_29 ?_
    exact zd_zret C hr hlk hH hS (by decide) (⟨rfl, rfl, _, rfl, hF⟩) dX5_pay_30
  · have hF := hF.2 c1
    refine lv_aload_n C.1 C.2.1 dX5_pay_8 rfl (lv_at hl 0 rfl) ?_
    refine lv_iload_n C.1 C.2.1 dX5_pay_9 rfl (lv_at hl 2 rfl) ?_
    refine zgoi (zrunV (As := [.int (zI (b))]) (rest := []) C hE hH hS hl.1 (c_X5_has (l := l) hC (b) hb) k_RX5_31 ⟨Nat.le_of_ble_eq_true rfl, Nat.le_of_ble_eq_true rfl⟩ (zLedger_n0 hC) (zLedger_k0 hC) rfl rfl rfl (Nat.le_of_ble_eq_true rfl) dX5_pay_10 ⟨Nat.zero_le _, Nat.zero_le _⟩) hS (fun rq Xq Yq Rq H locs hrq hq hH hS => ?_)
    obtain ⟨h91, h92⟩ := hq
    have h93 : Xq = X := congrArg (fun z => z.1) h92
    have h94 : Yq = Y := congrArg (fun z => z.2.1) h92
    have h95 : Rq = R := congrArg (fun z => z.2.2) h92
    rw [h93, h94, h95] at hH
    subst h91
    refine zd_ifB_eq C 29 dX5_pay_13 (by decide) (fun c2 => ?_) (fun c2 => ?_)
    · have hF := hF.1 c2
      refine zd_iconst C dX5_pay_29 ?_
      exact zd_zret C hr hlk hH hS (by decide) (⟨rfl, rfl, _, rfl, hF⟩) dX5_pay_30
    · have hF := hF.2 c2
      refine lv_aload_n C.1 C.2.1 dX5_pay_16 rfl (lv_at hl 0 rfl) ?_
      refine zg5_1 C hH (zLedger_n0 hC) (zLedger_k0 hC) q_383 (zLedger_r1 hC) dX5_pay_17 ?_
      refine lv_iload_n C.1 C.2.1 dX5_pay_20 rfl (lv_at hl 1 rfl) ?_
      obtain ⟨o3, hF⟩ := hF
      refine zd_iald C hH (zLedger_n1 hC) (zLedger_k1 hC) o3.1 (by rw [zLedger_l1 hC]; exact o3.2) (by rw [zLedger_l1 hC]; decide) dX5_pay_21 ?_
      refine lv_iload_n C.1 C.2.1 dX5_pay_22 rfl (lv_at hl 3 rfl) ?_
      refine lv_iload C.1 C.2.1 dX5_pay_23 (lv_at hl 4 rfl) ?_
      refine zd_iadd C dX5_pay_25 ?_
      obtain ⟨o5, hF⟩ := hF
      refine zd_icmp_ge C (hH.2.2.1 _ _) o5 31 dX5_pay_26 (by decide) (fun c4 => ?_) (fun c4 => ?_)
      · have hF := hF.1 c4
        refine lv_aload_n C.1 C.2.1 dX5_pay_31 rfl (lv_at hl 0 rfl) ?_
        refine zg5_1 C hH (zLedger_n0 hC) (zLedger_k0 hC) q_383 (zLedger_r1 hC) dX5_pay_32 ?_
        refine lv_iload_n C.1 C.2.1 dX5_pay_35 rfl (lv_at hl 1 rfl) ?_
        refine lv_dup2_11 C.1 C.2.1 dX5_pay_36 rfl rfl ?_
        obtain ⟨o6, hF⟩ := hF
        refine zd_iald C hH (zLedger_n1 hC) (zLedger_k1 hC) o6.1 (by rw [zLedger_l1 hC]; exact o6.2) (by rw [zLedger_l1 hC]; decide) dX5_pay_37 ?_
        refine lv_iload_n C.1 C.2.1 dX5_pay_38 rfl (lv_at hl 3 rfl) ?_
        refine lv_iload C.1 C.2.1 dX5_pay_39 (lv_at hl 4 rfl) ?_
        refine zd_iadd C dX5_pay_41 ?_
        refine zd_isub C dX5_pay_42 ?_
        obtain ⟨o7, hF⟩ := hF
        obtain ⟨o8, hF⟩ := hF
        refine zd_iast C hH hS (zLedger_n1 hC) (zLedger_k1 hC) o7.1 (by rw [zLedger_l1 hC]; exact o7.2) (by rw [zLedger_l1 hC]; decide) o8 dX5_pay_43 (fun H locs hH hS => ?_)
        obtain ⟨X9, eX9⟩ : ∃ z, z = zU X (i + 1) (a) ((X (i + 1) (a)) - (g + d)) := ⟨_, rfl⟩
        rw [← eX9] at hH
        have hF := hF X9 eX9 hH.2.2.1
        refine lv_aload_n C.1 C.2.1 dX5_pay_44 rfl (lv_at hl 0 rfl) ?_
        refine zg5_1 C hH (zLedger_n0 hC) (zLedger_k0 hC) q_383 (zLedger_r1 hC) dX5_pay_45 ?_
        refine lv_iload_n C.1 C.2.1 dX5_pay_48 rfl (lv_at hl 2 rfl) ?_
        refine lv_dup2_11 C.1 C.2.1 dX5_pay_49 rfl rfl ?_
        obtain ⟨o10, hF⟩ := hF
        refine zd_iald C hH (zLedger_n1 hC) (zLedger_k1 hC) o10.1 (by rw [zLedger_l1 hC]; exact o10.2) (by rw [zLedger_l1 hC]; decide) dX5_pay_50 ?_
        refine lv_iload_n C.1 C.2.1 dX5_pay_51 rfl (lv_at hl 3 rfl) ?_
        refine zd_iadd C dX5_pay_52 ?_
        obtain ⟨o11, hF⟩ := hF
        obtain ⟨o12, hF⟩ := hF
        refine zd_iast C hH hS (zLedger_n1 hC) (zLedger_k1 hC) o11.1 (by rw [zLedger_l1 hC]; exact o11.2) (by rw [zLedger_l1 hC]; decide) o12 dX5_pay_53 (fun H locs hH hS => ?_)
        obtain ⟨X13, eX13⟩ : ∃ z, z = zU X9 (i + 1) (b) ((X9 (i + 1) (b)) + g) := ⟨_, rfl⟩
        rw [← eX13] at hH
        have hF := hF X13 eX13 hH.2.2.1
        refine zd_iconst C dX5_pay_54 ?_
        exact zd_zret C hr hlk hH hS (by decide) (⟨rfl, rfl, _, rfl, hF⟩) dX5_pay_55
      · have hF := hF.2 c4
        refine zd_iconst C dX5_pay_29 ?_
        exact zd_zret C hr hlk hH hS (by decide) (⟨rfl, rfl, _, rfl, hF⟩) dX5_pay_30
theorem v_X5_pay {X Y : Nat → Int → Int} {R : Nat → Int → Option Nat} {i : Nat} (a : Int) (ha : rI a) (b : Int) (hb : rI b) (g : Int) (hg : rI g) (d : Int) (hd : rI d) (hp : (0 ≤ g ∧ g ≤ 99) ∧ (0 ≤ d ∧ d ≤ 9) ∧ ∀ y : Int, 0 ≤ y → y < 6 → 0 ≤ X (i + 1) y ∧ X (i + 1) y ≤ 1000000000) : F_X5_pay i X Y R a b g d := by
  unfold F_X5_pay
  intro hX hY
  obtain ⟨⟨g0, g1⟩, ⟨d0, d1⟩, hin⟩ := hp
  unfold cPk
  refine ⟨?_, ?_⟩
  · intro c1
    rw [c1]
    exact ⟨rfl, fun _ => rfl, fun h => by cases h⟩
  intro c2
  have c2t := of_decide_eq_true c2
  have na := hin a (by omega) (by omega)
  refine ⟨?_, ?_⟩
  · intro c3
    rw [c2, c3]
    exact ⟨rfl, fun _ => rfl, fun h => by cases h⟩
  intro c4
  have c4t := of_decide_eq_true c4
  have nb := hin b (by omega) (by omega)
  refine ⟨?_, ?_⟩
  · first | omega | exact ⟨by omega, by omega⟩ | decide | assumption | exact ⟨by omega, by omega, by omega⟩ | exact ⟨by decide, by decide⟩
  refine ⟨?_, ?_⟩
  · first | omega | exact ⟨by omega, by omega⟩ | decide | assumption | exact ⟨by omega, by omega, by omega⟩ | exact ⟨by decide, by decide⟩
  refine ⟨?_, ?_⟩
  · intro c5
    refine ⟨?_, ?_⟩
    · first | omega | exact ⟨by omega, by omega⟩ | decide | assumption | exact ⟨by omega, by omega, by omega⟩ | exact ⟨by decide, by decide⟩
    refine ⟨?_, ?_⟩
    · first | omega | exact ⟨by omega, by omega⟩ | decide | assumption | exact ⟨by omega, by omega, by omega⟩ | exact ⟨by decide, by decide⟩
    refine ⟨?_, ?_⟩
    · first | omega | exact ⟨by omega, by omega⟩ | decide | assumption | exact ⟨by omega, by omega, by omega⟩ | exact ⟨by decide, by decide⟩
    intro X9
    intro eX9
    intro rX9
    refine ⟨?_, ?_⟩
    · first | omega | exact ⟨by omega, by omega⟩ | decide | assumption | exact ⟨by omega, by omega, by omega⟩ | exact ⟨by decide, by decide⟩
    refine ⟨?_, ?_⟩
    · first | omega | exact ⟨by omega, by omega⟩ | decide | assumption | exact ⟨by omega, by omega, by omega⟩ | exact ⟨by decide, by decide⟩
    refine ⟨?_, ?_⟩
    · rw [eX9, zU_up]
      unfold upI
      split
      · exact ⟨by omega, by omega⟩
      · exact ⟨by omega, by omega⟩
    intro X13
    intro eX13
    intro rX13
    rw [c2, c4, decide_eq_true c5]
    exact ⟨rfl, fun h => absurd h (by decide), fun _ => by rw [eX13, eX9]; rfl⟩
  intro c6
  rw [c2, c4, decide_eq_false c6]
  exact ⟨rfl, fun _ => rfl, fun h => by cases h⟩
theorem c_X5_pay {l : Launch} {D : va_G} {cy : Nat → ClassId} {bs N : Nat} {sa : Nat → Nat} {kd len : Nat → Nat} {X Y : Nat → Int → Int} {R : Nat → Int → Option Nat} {i : Nat} (hC : zLedger N kd len R i) (a : Int) (ha : rI a) (b : Int) (hb : rI b) (g : Int) (hg : rI g) (d : Int) (hd : rI d) (hp : (0 ≤ g ∧ g ≤ 99) ∧ (0 ≤ d ∧ d ≤ 9) ∧ ∀ y : Int, 0 ≤ y → y < 6 → 0 ≤ X (i + 1) y ∧ X (i + 1) y ≤ 1000000000) : Met l yX5_pay (.code yX5_pay cX5_pay 5 (some .boolean) :: zTB) (zRm 1 21) (zPc D cy bs sa N kd len X Y R [.ref (bs + (i)), .int (zI (a)), .int (zI (b)), .int (zI (g)), .int (zI (d))]) (zQi D cy bs N kd len (fun r st => st.2.1 = Y ∧ st.2.2 = R ∧ ∃ rb : Bool, r = bz rb ∧ (rb = cPk X i (a) (b) (g) (d) ∧ (rb = false → (st.1) = X) ∧ (rb = true → (st.1) = cPa X i (a) (b) (g) (d))))) 0 0 (zA bs) := w_X5_pay hC a ha b hb g hg d hd (v_X5_pay a ha b hb g hg d hd hp)
abbrev cX7_isBlank : ByteArray := prog_9_method_14_code
def yX7_isBlank : MethodName := ⟨RX7, "isBlank", "(I)Z"⟩
theorem dX7_isBlank_0 : decode cX7_isBlank 0 = .ok (.iload_n 0, 1) := by decide +kernel
theorem dX7_isBlank_1 : decode cX7_isBlank 1 = .ok (.bipush 10, 2) := by decide +kernel
theorem dX7_isBlank_3 : decode cX7_isBlank 3 = .ok (.if_icmp .eq 9, 3) := by decide +kernel
theorem dX7_isBlank_6 : decode cX7_isBlank 6 = .ok (.iload_n 0, 1) := by decide +kernel
theorem dX7_isBlank_7 : decode cX7_isBlank 7 = .ok (.bipush 32, 2) := by decide +kernel
theorem dX7_isBlank_9 : decode cX7_isBlank 9 = .ok (.if_icmp .ne 7, 3) := by decide +kernel
theorem dX7_isBlank_12 : decode cX7_isBlank 12 = .ok (.iconst 1, 1) := by decide +kernel
theorem dX7_isBlank_13 : decode cX7_isBlank 13 = .ok (.goto 4, 3) := by decide +kernel
theorem dX7_isBlank_16 : decode cX7_isBlank 16 = .ok (.iconst 0, 1) := by decide +kernel
theorem dX7_isBlank_17 : decode cX7_isBlank 17 = .ok (.ireturn, 1) := by decide +kernel
def F_X7_isBlank (X Y : Nat → Int → Int) (R : Nat → Int → Option Nat) (a : Int) : Prop := (∀ i j, rI (X i j)) → (∀ i j, rL (Y i j)) → ((a = 10) → (1 = bz (decide (a = 10 ∨ a = 32)))) ∧ ((¬ (a = 10)) → (((¬ a = 32) → (0 = bz (decide (a = 10 ∨ a = 32)))) ∧ ((¬ (¬ a = 32)) → (1 = bz (decide (a = 10 ∨ a = 32))))))
set_option maxHeartbeats 4000000 in
set_option maxRecDepth 100000 in
theorem w_X7_isBlank {l : Launch} {D : va_G} {cy : Nat → ClassId} {bs N : Nat} {sa : Nat → Nat} {kd len : Nat → Nat} {X Y : Nat → Int → Int} {R : Nat → Int → Option Nat}  (a : Int) (ha : rI a) (hF : F_X7_isBlank  X Y R a) : Met l yX7_isBlank (.code yX7_isBlank cX7_isBlank 1 (some .boolean) :: zTB) (zRm 0 0) (zPc D cy bs sa N kd len X Y R [.int (zI (a))]) (zQi D cy bs N kd len (fun r st => r = bz (decide (a = 10 ∨ a = 32)) ∧ st = (X, Y, R))) 0 0 (zA bs) := by
  refine zstart (by decide) (Nat.le_of_ble_eq_true rfl) ?_
  intro p e s m args below meth c ls C hE hH hr hlk hnm hl hargs
  have hF := hF hH.2.2.1 hH.2.2.2
  have hS : va_S (zA bs) s.heap s.heap [] := va_S.rf
  have hl : lv_has ls 1 [(0, .int (zI (a)))] := hl
  refine lv_iload_n C.1 C.2.1 dX7_isBlank_0 rfl (lv_at hl 0 rfl) ?_
  refine zd_bipush C (by decide) dX7_isBlank_1 ?_
  refine zd_icmp_eq C ha (by decide) 12 dX7_isBlank_3 (by decide) (fun c1 => ?_) (fun c1 => ?_)
  · have hF := hF.1 c1
    refine zd_iconst C dX7_isBlank_12 ?_
    refine lv_goto (tgt := 17) C.1 C.2.1 dX7_isBlank_13 (by decide) ?_
    exact zd_zret C hr hlk hH hS (by decide) (⟨hF, rfl⟩) dX7_isBlank_17
  · have hF := hF.2 c1
    refine lv_iload_n C.1 C.2.1 dX7_isBlank_6 rfl (lv_at hl 0 rfl) ?_
    refine zd_bipush C (by decide) dX7_isBlank_7 ?_
    refine zd_icmp_ne C ha (by decide) 16 dX7_isBlank_9 (by decide) (fun c2 => ?_) (fun c2 => ?_)
    · have hF := hF.1 c2
      refine zd_iconst C dX7_isBlank_16 ?_
      exact zd_zret C hr hlk hH hS (by decide) (⟨hF, rfl⟩) dX7_isBlank_17
    · have hF := hF.2 c2
      refine zd_iconst C dX7_isBlank_12 ?_
      refine lv_goto (tgt := 17) C.1 C.2.1 dX7_isBlank_13 (by decide) ?_
      exact zd_zret C hr hlk hH hS (by decide) (⟨hF, rfl⟩) dX7_isBlank_17
theorem v_X7_isBlank {X Y : Nat → Int → Int} {R : Nat → Int → Option Nat}  (a : Int) (ha : rI a) : F_X7_isBlank  X Y R a := by
  unfold F_X7_isBlank
  intro hX hY
  refine ⟨?_, ?_⟩
  · intro c1
    rw [decide_eq_true (by omega)]
    rfl
  intro c2
  refine ⟨?_, ?_⟩
  · intro c3
    rw [decide_eq_false (by omega)]
    rfl
  intro c4
  rw [decide_eq_true (by omega)]
  rfl
theorem c_X7_isBlank {l : Launch} {D : va_G} {cy : Nat → ClassId} {bs N : Nat} {sa : Nat → Nat} {kd len : Nat → Nat} {X Y : Nat → Int → Int} {R : Nat → Int → Option Nat}  (a : Int) (ha : rI a) : Met l yX7_isBlank (.code yX7_isBlank cX7_isBlank 1 (some .boolean) :: zTB) (zRm 0 0) (zPc D cy bs sa N kd len X Y R [.int (zI (a))]) (zQi D cy bs N kd len (fun r st => r = bz (decide (a = 10 ∨ a = 32)) ∧ st = (X, Y, R))) 0 0 (zA bs) := w_X7_isBlank  a ha (v_X7_isBlank a ha)
abbrev cX7_isLetter : ByteArray := prog_9_method_15_code
def yX7_isLetter : MethodName := ⟨RX7, "isLetter", "(I)Z"⟩
theorem dX7_isLetter_0 : decode cX7_isLetter 0 = .ok (.iload_n 0, 1) := by decide +kernel
theorem dX7_isLetter_1 : decode cX7_isLetter 1 = .ok (.bipush 97, 2) := by decide +kernel
theorem dX7_isLetter_3 : decode cX7_isLetter 3 = .ok (.if_icmp .lt 13, 3) := by decide +kernel
theorem dX7_isLetter_6 : decode cX7_isLetter 6 = .ok (.iload_n 0, 1) := by decide +kernel
theorem dX7_isLetter_7 : decode cX7_isLetter 7 = .ok (.bipush 122, 2) := by decide +kernel
theorem dX7_isLetter_9 : decode cX7_isLetter 9 = .ok (.if_icmp .gt 7, 3) := by decide +kernel
theorem dX7_isLetter_12 : decode cX7_isLetter 12 = .ok (.iconst 1, 1) := by decide +kernel
theorem dX7_isLetter_13 : decode cX7_isLetter 13 = .ok (.goto 4, 3) := by decide +kernel
theorem dX7_isLetter_16 : decode cX7_isLetter 16 = .ok (.iconst 0, 1) := by decide +kernel
theorem dX7_isLetter_17 : decode cX7_isLetter 17 = .ok (.ireturn, 1) := by decide +kernel
def F_X7_isLetter (X Y : Nat → Int → Int) (R : Nat → Int → Option Nat) (a : Int) : Prop := (∀ i j, rI (X i j)) → (∀ i j, rL (Y i j)) → ((a < 97) → (0 = bz (decide (97 ≤ a ∧ a ≤ 122)))) ∧ ((¬ (a < 97)) → (((122 < a) → (0 = bz (decide (97 ≤ a ∧ a ≤ 122)))) ∧ ((¬ (122 < a)) → (1 = bz (decide (97 ≤ a ∧ a ≤ 122))))))
set_option maxHeartbeats 4000000 in
set_option maxRecDepth 100000 in
theorem w_X7_isLetter {l : Launch} {D : va_G} {cy : Nat → ClassId} {bs N : Nat} {sa : Nat → Nat} {kd len : Nat → Nat} {X Y : Nat → Int → Int} {R : Nat → Int → Option Nat}  (a : Int) (ha : rI a) (hF : F_X7_isLetter  X Y R a) : Met l yX7_isLetter (.code yX7_isLetter cX7_isLetter 1 (some .boolean) :: zTB) (zRm 0 0) (zPc D cy bs sa N kd len X Y R [.int (zI (a))]) (zQi D cy bs N kd len (fun r st => r = bz (decide (97 ≤ a ∧ a ≤ 122)) ∧ st = (X, Y, R))) 0 0 (zA bs) := by
  refine zstart (by decide) (Nat.le_of_ble_eq_true rfl) ?_
  intro p e s m args below meth c ls C hE hH hr hlk hnm hl hargs
  have hF := hF hH.2.2.1 hH.2.2.2
  have hS : va_S (zA bs) s.heap s.heap [] := va_S.rf
  have hl : lv_has ls 1 [(0, .int (zI (a)))] := hl
  refine lv_iload_n C.1 C.2.1 dX7_isLetter_0 rfl (lv_at hl 0 rfl) ?_
  refine zd_bipush C (by decide) dX7_isLetter_1 ?_
  refine zd_icmp_lt C ha (by decide) 16 dX7_isLetter_3 (by decide) (fun c1 => ?_) (fun c1 => ?_)
  · have hF := hF.1 c1
    refine zd_iconst C dX7_isLetter_16 ?_
    exact zd_zret C hr hlk hH hS (by decide) (⟨hF, rfl⟩) dX7_isLetter_17
  · have hF := hF.2 c1
    refine lv_iload_n C.1 C.2.1 dX7_isLetter_6 rfl (lv_at hl 0 rfl) ?_
    refine zd_bipush C (by decide) dX7_isLetter_7 ?_
    refine zd_icmp_gt C ha (by decide) 16 dX7_isLetter_9 (by decide) (fun c2 => ?_) (fun c2 => ?_)
    · have hF := hF.1 c2
      refine zd_iconst C dX7_isLetter_16 ?_
      exact zd_zret C hr hlk hH hS (by decide) (⟨hF, rfl⟩) dX7_isLetter_17
    · have hF := hF.2 c2
      refine zd_iconst C dX7_isLetter_12 ?_
      refine lv_goto (tgt := 17) C.1 C.2.1 dX7_isLetter_13 (by decide) ?_
      exact zd_zret C hr hlk hH hS (by decide) (⟨hF, rfl⟩) dX7_isLetter_17
theorem v_X7_isLetter {X Y : Nat → Int → Int} {R : Nat → Int → Option Nat}  (a : Int) (ha : rI a) : F_X7_isLetter  X Y R a := by
  unfold F_X7_isLetter
  intro hX hY
  refine ⟨?_, ?_⟩
  · intro c1
    rw [decide_eq_false (by omega)]
    rfl
  intro c2
  refine ⟨?_, ?_⟩
  · intro c3
    rw [decide_eq_false (by omega)]
    rfl
  intro c4
  rw [decide_eq_true (by omega)]
  rfl
theorem c_X7_isLetter {l : Launch} {D : va_G} {cy : Nat → ClassId} {bs N : Nat} {sa : Nat → Nat} {kd len : Nat → Nat} {X Y : Nat → Int → Int} {R : Nat → Int → Option Nat}  (a : Int) (ha : rI a) : Met l yX7_isLetter (.code yX7_isLetter cX7_isLetter 1 (some .boolean) :: zTB) (zRm 0 0) (zPc D cy bs sa N kd len X Y R [.int (zI (a))]) (zQi D cy bs N kd len (fun r st => r = bz (decide (97 ≤ a ∧ a ≤ 122)) ∧ st = (X, Y, R))) 0 0 (zA bs) := w_X7_isLetter  a ha (v_X7_isLetter a ha)
abbrev cX7_isDigit : ByteArray := prog_9_method_16_code
def yX7_isDigit : MethodName := ⟨RX7, "isDigit", "(I)Z"⟩
theorem dX7_isDigit_0 : decode cX7_isDigit 0 = .ok (.iload_n 0, 1) := by decide +kernel
theorem dX7_isDigit_1 : decode cX7_isDigit 1 = .ok (.bipush 48, 2) := by decide +kernel
theorem dX7_isDigit_3 : decode cX7_isDigit 3 = .ok (.if_icmp .lt 13, 3) := by decide +kernel
theorem dX7_isDigit_6 : decode cX7_isDigit 6 = .ok (.iload_n 0, 1) := by decide +kernel
theorem dX7_isDigit_7 : decode cX7_isDigit 7 = .ok (.bipush 57, 2) := by decide +kernel
theorem dX7_isDigit_9 : decode cX7_isDigit 9 = .ok (.if_icmp .gt 7, 3) := by decide +kernel
theorem dX7_isDigit_12 : decode cX7_isDigit 12 = .ok (.iconst 1, 1) := by decide +kernel
theorem dX7_isDigit_13 : decode cX7_isDigit 13 = .ok (.goto 4, 3) := by decide +kernel
theorem dX7_isDigit_16 : decode cX7_isDigit 16 = .ok (.iconst 0, 1) := by decide +kernel
theorem dX7_isDigit_17 : decode cX7_isDigit 17 = .ok (.ireturn, 1) := by decide +kernel
def F_X7_isDigit (X Y : Nat → Int → Int) (R : Nat → Int → Option Nat) (a : Int) : Prop := (∀ i j, rI (X i j)) → (∀ i j, rL (Y i j)) → ((a < 48) → (0 = bz (decide (48 ≤ a ∧ a ≤ 57)))) ∧ ((¬ (a < 48)) → (((57 < a) → (0 = bz (decide (48 ≤ a ∧ a ≤ 57)))) ∧ ((¬ (57 < a)) → (1 = bz (decide (48 ≤ a ∧ a ≤ 57))))))
set_option maxHeartbeats 4000000 in
set_option maxRecDepth 100000 in
theorem w_X7_isDigit {l : Launch} {D : va_G} {cy : Nat → ClassId} {bs N : Nat} {sa : Nat → Nat} {kd len : Nat → Nat} {X Y : Nat → Int → Int} {R : Nat → Int → Option Nat}  (a : Int) (ha : rI a) (hF : F_X7_isDigit  X Y R a) : Met l yX7_isDigit (.code yX7_isDigit cX7_isDigit 1 (some .boolean) :: zTB) (zRm 0 0) (zPc D cy bs sa N kd len X Y R [.int (zI (a))]) (zQi D cy bs N kd len (fun r st => r = bz (decide (48 ≤ a ∧ a ≤ 57)) ∧ st = (X, Y, R))) 0 0 (zA bs) := by
  refine zstart (by decide) (Nat.le_of_ble_eq_true rfl) ?_
  intro p e s m args below meth c ls C hE hH hr hlk hnm hl hargs
  have hF := hF hH.2.2.1 hH.2.2.2
  have hS : va_S (zA bs) s.heap s.heap [] := va_S.rf
  have hl : lv_has ls 1 [(0, .int (zI (a)))] := hl
  refine lv_iload_n C.1 C.2.1 dX7_isDigit_0 rfl (lv_at hl 0 rfl) ?_
  refine zd_bipush C (by decide) dX7_isDigit_1 ?_
  refine zd_icmp_lt C ha (by decide) 16 dX7_isDigit_3 (by decide) (fun c1 => ?_) (fun c1 => ?_)
  · have hF := hF.1 c1
    refine zd_iconst C dX7_isDigit_16 ?_
    exact zd_zret C hr hlk hH hS (by decide) (⟨hF, rfl⟩) dX7_isDigit_17
  · have hF := hF.2 c1
    refine lv_iload_n C.1 C.2.1 dX7_isDigit_6 rfl (lv_at hl 0 rfl) ?_
    refine zd_bipush C (by decide) dX7_isDigit_7 ?_
    refine zd_icmp_gt C ha (by decide) 16 dX7_isDigit_9 (by decide) (fun c2 => ?_) (fun c2 => ?_)
    · have hF := hF.1 c2
      refine zd_iconst C dX7_isDigit_16 ?_
      exact zd_zret C hr hlk hH hS (by decide) (⟨hF, rfl⟩) dX7_isDigit_17
    · have hF := hF.2 c2
      refine zd_iconst C dX7_isDigit_12 ?_
      refine lv_goto (tgt := 17) C.1 C.2.1 dX7_isDigit_13 (by decide) ?_
      exact zd_zret C hr hlk hH hS (by decide) (⟨hF, rfl⟩) dX7_isDigit_17
theorem v_X7_isDigit {X Y : Nat → Int → Int} {R : Nat → Int → Option Nat}  (a : Int) (ha : rI a) : F_X7_isDigit  X Y R a := by
  unfold F_X7_isDigit
  intro hX hY
  refine ⟨?_, ?_⟩
  · intro c1
    rw [decide_eq_false (by omega)]
    rfl
  intro c2
  refine ⟨?_, ?_⟩
  · intro c3
    rw [decide_eq_false (by omega)]
    rfl
  intro c4
  rw [decide_eq_true (by omega)]
  rfl
theorem c_X7_isDigit {l : Launch} {D : va_G} {cy : Nat → ClassId} {bs N : Nat} {sa : Nat → Nat} {kd len : Nat → Nat} {X Y : Nat → Int → Int} {R : Nat → Int → Option Nat}  (a : Int) (ha : rI a) : Met l yX7_isDigit (.code yX7_isDigit cX7_isDigit 1 (some .boolean) :: zTB) (zRm 0 0) (zPc D cy bs sa N kd len X Y R [.int (zI (a))]) (zQi D cy bs N kd len (fun r st => r = bz (decide (48 ≤ a ∧ a ≤ 57)) ∧ st = (X, Y, R))) 0 0 (zA bs) := w_X7_isDigit  a ha (v_X7_isDigit a ha)
