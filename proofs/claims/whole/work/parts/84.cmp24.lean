/-! A COURSE GOES -/
/-- a feed at j is the one picked -/
def feR (Z : Nat → Int → Int) (q : Nat) (X : Nat → Int → Int) (j nn : Nat) : Prop := (oRw X j nn ∧ X j 0 = 2 ∧ X j 1 = 40) ∧ X j 2 = mDn Z q ∧ ∀ k : Nat, (k : Int) < mDn Z q → X (j + 1) (k * 2 + 0) = fW Z q k ∧ X (j + 1) (k * 2 + 1) = fV Z q k ∧ (0 ≤ fW Z q k ∧ fW Z q k ≤ 3) ∧ (fW Z q k = 3 → 0 ≤ fV Z q k ∧ fV Z q k ≤ 1)
def goP (Z : Nat → Int → Int) (q : Nat) (X1 : Nat → Int → Int) (i : Nat) (tie : Int) (t : Cs) (k : Nat) : Prop := (csSq (cx9 Z q tie) (fW Z q) (fV Z q) (mDn Z q) t k).1 = true ∧ coS Z q X1 i (1 + 15 * k) (csSq (cx9 Z q tie) (fW Z q) (fV Z q) (mDn Z q) t k).2 ∧ X1 (i + 47) 9 = k ∧ X1 (i + 47) 14 = bgN (cx9 Z q tie) (fW Z q) (fV Z q) (mDn Z q) t k
theorem coS_up {Z : Nat → Int → Int} {q : Nat} {X : Nat → Int → Int} {i : Nat} {b b' : Int} {t : Cs} (hb : b ≤ b') (h : coS Z q X i b t) : coS Z q X i b' t := ⟨h.1, h.2.1, oCS_up hb hb h.2.2.1, h.2.2.2⟩
theorem try_S {Z : Nat → Int → Int} {q : Nat} {X2 X3 Y2 Y3 : Nat → Int → Int} {i : Nat} {r : Bool} {w v : Int} (h : r = csOk (Z q 27).toNat (coX X2 i) w v ∧ (r = false → X3 = X2 ∧ Y3 = Y2) ∧ (r = true → cfK X2 X3 Y2 Y3 i ∧ ac14 X2 X3 i ∧ ∀ bb t, coS Z q X2 i bb t → coS Z q X3 i (bb + 15) (csDo (cx9 Z q (X2 (i + 47) 1)) t w v))) : cfK X2 X3 Y2 Y3 i ∧ (X2 (i + 47) 9 ≤ X3 (i + 47) 9 ∧ X3 (i + 47) 9 ≤ X2 (i + 47) 9 + 1) ∧ ∀ bb t, coS Z q X2 i bb t → coS Z q X3 i (bb + 15) (csTry (cx9 Z q (X2 (i + 47) 1)) t w v) := by
  obtain ⟨h1, h2, h3⟩ := h
  cases r with
  | false =>
    obtain ⟨rfl, rfl⟩ := h2 rfl
    refine ⟨cfK.rf, ⟨by omega, by omega⟩, fun bb t g => ?_⟩
    unfold csTry
    rw [← g.1.1]
    rw [if_neg (by show ¬ csOk (Z q 27).toNat (coX X3 i) w v = true; rw [← h1]; decide)]
    exact coS_up (by omega) g
  | true =>
    obtain ⟨g1, g2, g3⟩ := h3 rfl
    have e := g2.1
    refine ⟨g1, ⟨by omega, by omega⟩, fun bb t g => ?_⟩
    unfold csTry
    rw [if_pos (by show csOk (Z q 27).toNat t.1 w v = true; rw [← g.1.1]; exact h1.symm)]
    exact g3 bb t g
abbrev cX2_go : ByteArray := prog_4_method_3_code
def yX2_go : MethodName := ⟨RX2, "go", "(LWorkChains$Rows;I)V"⟩
theorem dX2_go_0 : decode cX2_go 0 = .ok (.iconst 0, 1) := by decide +kernel
theorem dX2_go_1 : decode cX2_go 1 = .ok (.istore_n 3, 1) := by decide +kernel
theorem dX2_go_2 : decode cX2_go 2 = .ok (.iload_n 3, 1) := by decide +kernel
theorem dX2_go_3 : decode cX2_go 3 = .ok (.iload_n 2, 1) := by decide +kernel
theorem dX2_go_4 : decode cX2_go 4 = .ok (.if_icmp .ge 37, 3) := by decide +kernel
theorem dX2_go_7 : decode cX2_go 7 = .ok (.iload_n 3, 1) := by decide +kernel
theorem dX2_go_8 : decode cX2_go 8 = .ok (.aload_n 1, 1) := by decide +kernel
theorem dX2_go_9 : decode cX2_go 9 = .ok (.getfield 59, 3) := by decide +kernel
theorem dX2_go_12 : decode cX2_go 12 = .ok (.if_icmp .ge 29, 3) := by decide +kernel
theorem dX2_go_15 : decode cX2_go 15 = .ok (.aload_n 0, 1) := by decide +kernel
theorem dX2_go_16 : decode cX2_go 16 = .ok (.aload_n 1, 1) := by decide +kernel
theorem dX2_go_17 : decode cX2_go 17 = .ok (.iload_n 3, 1) := by decide +kernel
theorem dX2_go_18 : decode cX2_go 18 = .ok (.iconst 0, 1) := by decide +kernel
theorem dX2_go_19 : decode cX2_go 19 = .ok (.invokevirtual 64, 3) := by decide +kernel
theorem dX2_go_22 : decode cX2_go 22 = .ok (.aload_n 1, 1) := by decide +kernel
theorem dX2_go_23 : decode cX2_go 23 = .ok (.iload_n 3, 1) := by decide +kernel
theorem dX2_go_24 : decode cX2_go 24 = .ok (.iconst 1, 1) := by decide +kernel
theorem dX2_go_25 : decode cX2_go 25 = .ok (.invokevirtual 64, 3) := by decide +kernel
theorem dX2_go_28 : decode cX2_go 28 = .ok (.invokevirtual 68, 3) := by decide +kernel
theorem dX2_go_31 : decode cX2_go 31 = .ok (.ifCond .ne 4, 3) := by decide +kernel
theorem dX2_go_34 : decode cX2_go 34 = .ok (.return_, 1) := by decide +kernel
theorem dX2_go_35 : decode cX2_go 35 = .ok (.iinc 3 1, 3) := by decide +kernel
theorem dX2_go_38 : decode cX2_go 38 = .ok (.goto (-36), 3) := by decide +kernel
theorem dX2_go_41 : decode cX2_go 41 = .ok (.return_, 1) := by decide +kernel
theorem q_265 : Cond.fieldLink RX2 59 RX8 "size" "I" ∈ zTB := zmem 265 (by decide +kernel) rfl
theorem q_964 : Cond.methodLink RX2 64 yX8_part ∈ zTB := zmem 964 (by decide +kernel) rfl
theorem q_874 : Cond.instanceMethod yX8_part ∈ zTB := zmem 874 (by decide +kernel) rfl
theorem q_875 : Cond.selects RX8 yX8_part yX8_part ∈ zTB := zmem 875 (by decide +kernel) rfl
theorem q_876 : Cond.code yX8_part cX8_part 4 (some .int) ∈ zTB := zmem 876 (by decide +kernel) rfl
theorem k_RX2_64 : zLv RX2 64 RX8 yX8_part cX8_part 4 (some .int) 2 := ⟨⟨q_964, q_874, q_875, q_133, q_876⟩, rfl, ⟨by decide, by decide⟩, by decide +kernel⟩
theorem q_965 : Cond.methodLink RX2 68 yX2_act ∈ zTB := zmem 965 (by decide +kernel) rfl
theorem q_966 : Cond.instanceMethod yX2_act ∈ zTB := zmem 966 (by decide +kernel) rfl
theorem q_967 : Cond.selects RX2 yX2_act yX2_act ∈ zTB := zmem 967 (by decide +kernel) rfl
theorem q_968 : Cond.code yX2_act cX2_act 3 (some .boolean) ∈ zTB := zmem 968 (by decide +kernel) rfl
theorem k_RX2_68 : zLv RX2 68 RX2 yX2_act cX2_act 3 (some .boolean) 2 := ⟨⟨q_965, q_966, q_967, q_137, q_968⟩, rfl, ⟨by decide, by decide⟩, by decide +kernel⟩
def F_X2_go (i : Nat) (Z : Nat → Int → Int) (q : Nat) (j nn : Nat) (X Y : Nat → Int → Int) (R : Nat → Int → Option Nat) (b : Int) : Prop := (∀ i j, rI (X i j)) → (∀ i j, rL (Y i j)) → (∃ kn : Nat, (0 : Int) = kn ∧ (kn : Int) ≤ mDn Z q ∧ (kn = 0 ∨ (kn : Int) ≤ b) ∧ cfK X X Y Y i ∧ ∀ t, coS Z q X i 1 t → goP Z q X i (X (i + 47) 1) t kn) ∧ (∀ (k : Int) (X2 : Nat → Int → Int) (Y3 : Nat → Int → Int), rI k → (∀ i j, rI (X2 i j)) → (∀ i j, rL (Y3 i j)) → (∃ kn : Nat, k = kn ∧ (kn : Int) ≤ mDn Z q ∧ (kn = 0 ∨ (kn : Int) ≤ b) ∧ cfK X X2 Y Y3 i ∧ ∀ t, coS Z q X i 1 t → goP Z q X2 i (X (i + 47) 1) t kn) → (((b ≤ k) → (cfK X (X2) Y (Y3) i ∧ ∃ k : Nat, (k : Int) ≤ mDn Z q ∧ (k = 0 ∨ (k : Int) ≤ b) ∧ ∀ t, coS Z q X i 1 t → goP Z q (X2) i (X (i + 47) 1) t k ∧ (b ≤ k ∨ mDn Z q ≤ k ∨ csOk (Z q 27).toNat (csSq (cx9 Z q (X (i + 47) 1)) (fW Z q) (fV Z q) (mDn Z q) t k).2.1 (fW Z q k) (fV Z q k) = false))) ∧ ((¬ (b ≤ k)) → ((((X2 (j) 2) ≤ k) → (cfK X (X2) Y (Y3) i ∧ ∃ k : Nat, (k : Int) ≤ mDn Z q ∧ (k = 0 ∨ (k : Int) ≤ b) ∧ ∀ t, coS Z q X i 1 t → goP Z q (X2) i (X (i + 47) 1) t k ∧ (b ≤ k ∨ mDn Z q ≤ k ∨ csOk (Z q 27).toNat (csSq (cx9 Z q (X (i + 47) 1)) (fW Z q) (fV Z q) (mDn Z q) t k).2.1 (fW Z q k) (fV Z q k) = false))) ∧ ((¬ ((X2 (j) 2) ≤ k)) → ((oRw X2 j nn ∧ (0 ≤ k ∧ k < X2 j 1) ∧ 0 ≤ (0 : Int) ∧ (0 : Int) < X2 j 0) ∧ (rI (X2 (j + 1) ((k) * X2 j 0 + ((0 : Int)))) → ((oRw X2 j nn ∧ (0 ≤ k ∧ k < X2 j 1) ∧ 0 ≤ (1 : Int) ∧ (1 : Int) < X2 j 0) ∧ (rI (X2 (j + 1) ((k) * X2 j 0 + ((1 : Int)))) → (((cA Z q X2 Y3 R i ∧ (0 ≤ X2 (i + 47) 9 ∧ X2 (i + 47) 9 ≤ 100000)) ∧ ((0 ≤ ((X2 (j + 1) ((k) * X2 j 0 + ((0 : Int))))) ∧ ((X2 (j + 1) ((k) * X2 j 0 + ((0 : Int))))) ≤ 3) ∧ (((X2 (j + 1) ((k) * X2 j 0 + ((0 : Int))))) = 3 → 0 ≤ ((X2 (j + 1) ((k) * X2 j 0 + ((1 : Int))))) ∧ ((X2 (j + 1) ((k) * X2 j 0 + ((1 : Int))))) ≤ 1)) ∧ ∃ bb t, bb ≤ 900000 ∧ coS Z q X2 i bb t) ∧ (∀ r13 : Bool, ∀ X11 : Nat → Int → Int, (∀ i j, rI (X11 i j)) → ∀ Y12 : Nat → Int → Int, (∀ i j, rL (Y12 i j)) → (r13 = csOk (Z q 27).toNat (coX X2 i) ((X2 (j + 1) ((k) * X2 j 0 + ((0 : Int))))) ((X2 (j + 1) ((k) * X2 j 0 + ((1 : Int))))) ∧ (r13 = false → (X11) = X2 ∧ (Y12) = Y3) ∧ (r13 = true → cfK X2 (X11) Y3 (Y12) i ∧ ac14 X2 (X11) i ∧ ∀ bb t, coS Z q X2 i bb t → coS Z q (X11) i (bb + 15) (csDo (cx9 Z q (X2 (i + 47) 1)) t ((X2 (j + 1) ((k) * X2 j 0 + ((0 : Int))))) ((X2 (j + 1) ((k) * X2 j 0 + ((1 : Int)))))))) → (((r13 = true) → ((rI (k + 1)) ∧ (∃ kn : Nat, (k + 1) = kn ∧ (kn : Int) ≤ mDn Z q ∧ (kn = 0 ∨ (kn : Int) ≤ b) ∧ cfK X X11 Y Y12 i ∧ ∀ t, coS Z q X i 1 t → goP Z q X11 i (X (i + 47) 1) t kn) ∧ (((50 - (k + 1)).toNat) < ((50 - (k)).toNat)))) ∧ ((r13 = false) → (cfK X (X11) Y (Y12) i ∧ ∃ k : Nat, (k : Int) ≤ mDn Z q ∧ (k = 0 ∨ (k : Int) ≤ b) ∧ ∀ t, coS Z q X i 1 t → goP Z q (X11) i (X (i + 47) 1) t k ∧ (b ≤ k ∨ mDn Z q ≤ k ∨ csOk (Z q 27).toNat (csSq (cx9 Z q (X (i + 47) 1)) (fW Z q) (fV Z q) (mDn Z q) t k).2.1 (fW Z q k) (fV Z q k) = false)))))))))))))))
set_option maxHeartbeats 4000000 in
set_option maxRecDepth 100000 in
theorem w_X2_go {l : Launch} {D : va_G} {cy : Nat → ClassId} {bs N : Nat} {sa : Nat → Nat} {kd len : Nat → Nat} {X Y : Nat → Int → Int} {R : Nat → Int → Option Nat} {i : Nat} {Z : Nat → Int → Int} {q : Nat} (hC : zCourse N kd len R i) {j nn : Nat} (hR : zRows N kd len R j nn) (hsm : len (j + 1) < 2147483648) (b : Int) (hb : rI b) (hF : F_X2_go i Z q j nn X Y R b) : Met l yX2_go (.code yX2_go cX2_go 4 none :: zTB) (zRm 3 104) (zPc D cy bs sa N kd len X Y R [.ref (bs + (i + 47)), .ref (bs + (j)), .int (zI (b))]) (zQv D cy bs N kd len (fun st => st.2.2 = R ∧ (cfK X (st.1) Y (st.2.1) i ∧ ∃ k : Nat, (k : Int) ≤ mDn Z q ∧ (k = 0 ∨ (k : Int) ≤ b) ∧ ∀ t, coS Z q X i 1 t → goP Z q (st.1) i (X (i + 47) 1) t k ∧ (b ≤ k ∨ mDn Z q ≤ k ∨ csOk (Z q 27).toNat (csSq (cx9 Z q (X (i + 47) 1)) (fW Z q) (fV Z q) (mDn Z q) t k).2.1 (fW Z q k) (fV Z q k) = false)))) 0 0 (zA bs) := by
  refine zstart (by decide) (Nat.le_of_ble_eq_true rfl) ?_
  intro p e s m args below meth c ls C hE hH hr hlk hnm hl hargs
  have hF := hF hH.2.2.1 hH.2.2.2
  have hS : va_S (zA bs) s.heap s.heap [] := va_S.rf
  have hl : lv_has ls 4 [(0, .ref (bs + (i + 47))), (1, .ref (bs + (j))), (2, .int (zI (b)))] := hl
  refine zd_iconst C dX2_go_0 ?_
  refine lv_istore_n (lv' := [(3, .int (zI (0))), (0, .ref (bs + (i + 47))), (1, .ref (bs + (j))), (2, .int (zI (b)))]) C.1 C.2.1 dX2_go_1 rfl hl (by decide) rfl (fun ls hl => ?_)
  obtain ⟨hI1, hF⟩ := hF
  have L1 : ∀ (fu : Nat) (k : Int) (X2 : Nat → Int → Int) (Y3 : Nat → Int → Int), rI k → (∃ kn : Nat, k = kn ∧ (kn : Int) ≤ mDn Z q ∧ (kn = 0 ∨ (kn : Int) ≤ b) ∧ cfK X X2 Y Y3 i ∧ ∀ t, coS Z q X i 1 t → goP Z q X2 i (X (i + 47) 1) t kn) → ((50 - (k)).toNat) < fu → ∀ (H : Heap) (locs : List Loc) (ls : Array Slot), zH D cy bs N kd len X2 Y3 R H → va_S (zA bs) s.heap H locs → lv_has ls 4 [(3, .int (zI (k))), (0, .ref (bs + (i + 47))), (1, .ref (bs + (j))), (2, .int (zI (b)))] → W p l e (zRm 3 104) s m args below meth c H locs 0 0 (MQ below (zQv D cy bs N kd len (fun st => st.2.2 = R ∧ (cfK X (st.1) Y (st.2.1) i ∧ ∃ k : Nat, (k : Int) ≤ mDn Z q ∧ (k = 0 ∨ (k : Int) ≤ b) ∧ ∀ t, coS Z q X i 1 t → goP Z q (st.1) i (X (i + 47) 1) t k ∧ (b ≤ k ∨ mDn Z q ≤ k ∨ csOk (Z q 27).toNat (csSq (cx9 Z q (X (i + 47) 1)) (fW Z q) (fV Z q) (mDn Z q) t k).2.1 (fW Z q k) (fV Z q k) = false)))) args s 0 0 (zA bs)) (F0 m 2 ls []) := by
    intro fu
    induction fu with
    | zero => intro k X2 Y3 _ _ hmu; exact absurd hmu (Nat.not_lt_zero _)
    | succ fu ih1 =>
      intro k X2 Y3 hk hI hmu1 H locs ls hH hS hl
      have hF := hF k X2 Y3 hk hH.2.2.1 hH.2.2.2 hI
      refine lv_iload_n C.1 C.2.1 dX2_go_2 rfl (lv_at hl 0 rfl) ?_
      refine lv_iload_n C.1 C.2.1 dX2_go_3 rfl (lv_at hl 3 rfl) ?_
      refine zd_icmp_ge C hk hb 41 dX2_go_4 (by decide) (fun c4 => ?_) (fun c4 => ?_)
      · have hF := hF.1 c4
        exact zd_vret C hr hlk hH hS (⟨rfl, hF⟩) dX2_go_41
      · have hF := hF.2 c4
        refine lv_iload_n C.1 C.2.1 dX2_go_7 rfl (lv_at hl 0 rfl) ?_
        refine lv_aload_n C.1 C.2.1 dX2_go_8 rfl (lv_at hl 2 rfl) ?_
        refine zg8_2 C hH (zRows_n0 hR) (zRows_k0 hR) q_265 dX2_go_9 ?_
        refine zd_icmp_ge C hk (hH.2.2.1 _ _) 41 dX2_go_12 (by decide) (fun c5 => ?_) (fun c5 => ?_)
        · have hF := hF.1 c5
          exact zd_vret C hr hlk hH hS (⟨rfl, hF⟩) dX2_go_41
        · have hF := hF.2 c5
          refine lv_aload_n C.1 C.2.1 dX2_go_15 rfl (lv_at hl 1 rfl) ?_
          refine lv_aload_n C.1 C.2.1 dX2_go_16 rfl (lv_at hl 2 rfl) ?_
          refine lv_iload_n C.1 C.2.1 dX2_go_17 rfl (lv_at hl 0 rfl) ?_
          refine zd_iconst C dX2_go_18 ?_
          obtain ⟨o6, hF⟩ := hF
          refine zgoi (zrunV (As := [.int (zI (k)), .int (zI (0))]) (rest := [.ref (bs + (i + 47))]) C hE hH hS hl.1 (c_X8_part (l := l) hR hsm (k) hk (0) (by decide) o6) k_RX2_64 ⟨Nat.le_of_ble_eq_true rfl, Nat.le_of_ble_eq_true rfl⟩ (zRows_n0 hR) (zRows_k0 hR) rfl rfl rfl (Nat.le_of_ble_eq_true rfl) dX2_go_19 ⟨Nat.zero_le _, Nat.zero_le _⟩) hS (fun rq Xq Yq Rq H locs hrq hq hH hS => ?_)
          obtain ⟨h91, h92⟩ := hq
          have h93 : Xq = X2 := congrArg (fun z => z.1) h92
          have h94 : Yq = Y3 := congrArg (fun z => z.2.1) h92
          have h95 : Rq = R := congrArg (fun z => z.2.2) h92
          rw [h93, h94, h95] at hH
          subst h91
          have hr7 := hrq
          have hF := hF hr7
          refine lv_aload_n C.1 C.2.1 dX2_go_22 rfl (lv_at hl 2 rfl) ?_
          refine lv_iload_n C.1 C.2.1 dX2_go_23 rfl (lv_at hl 0 rfl) ?_
          refine zd_iconst C dX2_go_24 ?_
          obtain ⟨o8, hF⟩ := hF
          refine zgoi (zrunV (As := [.int (zI (k)), .int (zI (1))]) (rest := [.int (zI (X2 (j + 1) ((k) * X2 j 0 + ((0 : Int))))), .ref (bs + (i + 47))]) C hE hH hS hl.1 (c_X8_part (l := l) hR hsm (k) hk (1) (by decide) o8) k_RX2_64 ⟨Nat.le_of_ble_eq_true rfl, Nat.le_of_ble_eq_true rfl⟩ (zRows_n0 hR) (zRows_k0 hR) rfl rfl rfl (Nat.le_of_ble_eq_true rfl) dX2_go_25 ⟨Nat.zero_le _, Nat.zero_le _⟩) hS (fun rq Xq Yq Rq H locs hrq hq hH hS => ?_)
          obtain ⟨h91, h92⟩ := hq
          have h93 : Xq = X2 := congrArg (fun z => z.1) h92
          have h94 : Yq = Y3 := congrArg (fun z => z.2.1) h92
          have h95 : Rq = R := congrArg (fun z => z.2.2) h92
          rw [h93, h94, h95] at hH
          subst h91
          have hr9 := hrq
          have hF := hF hr9
          obtain ⟨o10, hF⟩ := hF
          refine zgoi (zrunV (As := [.int (zI (X2 (j + 1) ((k) * X2 j 0 + ((0 : Int))))), .int (zI (X2 (j + 1) ((k) * X2 j 0 + ((1 : Int)))))]) (rest := []) C hE hH hS hl.1 (c_X2_act (l := l) hC (X2 (j + 1) ((k) * X2 j 0 + ((0 : Int)))) hr7 (X2 (j + 1) ((k) * X2 j 0 + ((1 : Int)))) hr9 o10) k_RX2_68 ⟨Nat.le_of_ble_eq_true rfl, Nat.le_of_ble_eq_true rfl⟩ (zCo_n hC) (zCo_k hC) rfl rfl rfl (Nat.le_of_ble_eq_true rfl) dX2_go_28 ⟨Nat.zero_le _, Nat.zero_le _⟩) hS (fun rq X11 Y12 Rq H locs hrq hq hH hS => ?_)
          obtain ⟨h9R, hq⟩ := hq
          dsimp only at h9R
          rw [h9R] at hH
          obtain ⟨r13, h91, hq⟩ := hq
          subst h91
          have hF := hF r13 X11 hH.2.2.1 Y12 hH.2.2.2 hq
          refine zd_ifB_ne C 35 dX2_go_31 (by decide) (fun c14 => ?_) (fun c14 => ?_)
          · have hF := hF.1 c14
            refine zd_iinc (k := 0) (lv' := [(3, .int (zI (k + 1))), (0, .ref (bs + (i + 47))), (1, .ref (bs + (j))), (2, .int (zI (b)))]) C hl rfl dX2_go_35 (by decide) rfl (fun ls hl => ?_)
            refine lv_goto (tgt := 2) C.1 C.2.1 dX2_go_38 (by decide) ?_
            obtain ⟨o15, hF⟩ := hF
            exact ih1 (k + 1) X11 Y12 o15 hF.1 (Nat.lt_of_lt_of_le hF.2 (Nat.le_of_lt_succ hmu1)) _ _ _ hH hS (lv_sub hl [0, 1, 2, 3] rfl)
          · have hF := hF.2 c14
            exact zd_vret C hr hlk hH hS (⟨rfl, hF⟩) dX2_go_34
  exact L1 (((50 - ((0 : Int))).toNat) + 1) ((0 : Int)) X Y (by decide) hI1 (Nat.lt_succ_self _) _ _ _ hH hS (lv_sub hl [0, 1, 2, 3] rfl)
theorem v_X2_go {X Y : Nat → Int → Int} {R : Nat → Int → Option Nat} {i : Nat} {Z : Nat → Int → Int} {q : Nat} {j nn : Nat} (b : Int) (hb : rI b) (hp : cA Z q X Y R i ∧ (feR Z q X j nn ∧ j + 1 < i) ∧ (X (i + 47) 9 = 0 ∧ X (i + 47) 14 = -1) ∧ ∃ t, coS Z q X i 1 t) : F_X2_go i Z q j nn X Y R b := by
  unfold F_X2_go
  intro hX hY
  obtain ⟨hq, ⟨hf, hj⟩, ⟨h90, h140⟩, t0, ht0⟩ := hp
  obtain ⟨l27, r27, e27⟩ := cA_l hq
  refine ⟨?_, ?_⟩
  · refine ⟨0, rfl, by have := hf.1.1.2.1; rw [← hf.2.1]; omega, Or.inl rfl, cfK.rf, fun t ht => ⟨rfl, ht, h90, h140⟩⟩
  intro k X2 Y3
  intro _
  intro rX2
  intro rY3
  intro h1
  obtain ⟨kn, rfl, kd, kb, hk, hg⟩ := h1
  have oj : ∀ z, z < i → X2 z = X z := fun z hz => hk.1 z (by omega) (by omega) (by omega)
  have o47 := hk.2.1
  have g0 := hg t0 ht0
  refine ⟨?_, ?_⟩
  · intro c1
    exact ⟨hk, kn, kd, kb, fun t ht => ⟨hg t ht, Or.inl c1⟩⟩
  intro c2
  refine ⟨?_, ?_⟩
  · intro c3
    rw [oj j (by omega), hf.2.1] at c3
    exact ⟨hk, kn, kd, kb, fun t ht => ⟨hg t ht, Or.inr (Or.inl c3)⟩⟩
  intro c4
  rw [oj j (by omega), hf.2.1] at c4
  have fk := hf.2.2 kn (by omega)
  have fr := hf.1
  rw [oj (j + 1) (by omega), oj j (by omega), fr.2.1, fk.1, fk.2.1]
  have hOr : oRw X2 j nn := by
    unfold oRw
    rw [oj j (by omega)]
    exact fr.1
  refine ⟨?_, ?_⟩
  · refine ⟨hOr, ?_⟩
    rw [fr.2.2]
    have := hf.1.1.2.1
    have h41 := fr.2.2
    have h42 := hf.2.1
    omega
  intro _
  refine ⟨?_, ?_⟩
  · refine ⟨hOr, ?_⟩
    rw [fr.2.2]
    have := hf.1.1.2.1
    have h41 := fr.2.2
    have h42 := hf.2.1
    omega
  intro _
  refine ⟨?_, ?_⟩
  · have h40 := fr.1.2.1
    have h41 := fr.2.2
    have h42 := hf.2.1
    refine ⟨⟨cA_f (fun z a b => hk.1 z b (by omega) (by omega)) hk.2.2 hq, by rw [g0.2.2.1]; omega⟩, ⟨fk.2.2.1, fk.2.2.2⟩, _, _, ?_, g0.2.1⟩
    omega
  intro r13
  intro X11
  intro rX11
  intro Y12
  intro rY12
  intro h2
  rw [o47] at h2
  refine ⟨?_, ?_⟩
  · intro c5
    obtain ⟨r1, r2, r3⟩ := h2.2.2 c5
    refine ⟨?_, ?_⟩
    · first | omega | exact ⟨by omega, by omega⟩ | decide | assumption | exact ⟨by omega, by omega, by omega⟩ | exact ⟨by decide, by decide⟩
    refine ⟨?_, ?_⟩
    · refine ⟨kn + 1, by omega, by omega, by omega, hk.tr r1, fun t ht => ?_⟩
      have g := hg t ht
      have hok : csOk (xN (cx9 Z q (X (i + 47) 1))) (csSq (cx9 Z q (X (i + 47) 1)) (fW Z q) (fV Z q) (mDn Z q) t kn).2.1 (fW Z q kn) (fV Z q kn) = true := by
        rw [← g.2.1.1.1, ← c5, h2.1]
        rfl
      have e := csSq_t g.1 (by omega) hok
      have hs := r3 _ _ g.2.1
      unfold goP
      have eb : bgN (cx9 Z q (X (i + 47) 1)) (fW Z q) (fV Z q) (mDn Z q) t (kn + 1) = if (csSq (cx9 Z q (X (i + 47) 1)) (fW Z q) (fV Z q) (mDn Z q) t kn).1 && decide ((kn : Int) < mDn Z q) then (if bgN (cx9 Z q (X (i + 47) 1)) (fW Z q) (fV Z q) (mDn Z q) t kn = -1 ∧ (csSq (cx9 Z q (X (i + 47) 1)) (fW Z q) (fV Z q) (mDn Z q) t (kn + 1)).2.1 5 ≠ 0 then (kn : Int) else bgN (cx9 Z q (X (i + 47) 1)) (fW Z q) (fV Z q) (mDn Z q) t kn) else bgN (cx9 Z q (X (i + 47) 1)) (fW Z q) (fV Z q) (mDn Z q) t kn := rfl
      rw [g.1, decide_eq_true (show (kn : Int) < mDn Z q by omega), Bool.and_true, if_pos rfl] at eb
      rw [eb, e]
      refine ⟨rfl, coS_up (by omega) hs, by rw [r2.1, g.2.2.1]; omega, ?_⟩
      have e5 : X11 (i + 47) 8 = (csDo (cx9 Z q (X (i + 47) 1)) (csSq (cx9 Z q (X (i + 47) 1)) (fW Z q) (fV Z q) (mDn Z q) t kn).2 (fW Z q kn) (fV Z q kn)).1 5 := by rw [← hs.1.1]; rfl
      rw [r2.2, e5, g.2.2.1, g.2.2.2]
    have h40 := fr.1.2.1
    have h41 := fr.2.2
    have h42 := hf.2.1
    omega
  intro c6
  obtain ⟨rfl, rfl⟩ := h2.2.1 c6
  refine ⟨hk, kn, kd, kb, fun t ht => ⟨hg t ht, Or.inr (Or.inr ?_)⟩⟩
  rw [← (hg t ht).2.1.1.1, ← c6, h2.1]
  rfl
theorem c_X2_go {l : Launch} {D : va_G} {cy : Nat → ClassId} {bs N : Nat} {sa : Nat → Nat} {kd len : Nat → Nat} {X Y : Nat → Int → Int} {R : Nat → Int → Option Nat} {i : Nat} {Z : Nat → Int → Int} {q : Nat} (hC : zCourse N kd len R i) {j nn : Nat} (hR : zRows N kd len R j nn) (hsm : len (j + 1) < 2147483648) (b : Int) (hb : rI b) (hp : cA Z q X Y R i ∧ (feR Z q X j nn ∧ j + 1 < i) ∧ (X (i + 47) 9 = 0 ∧ X (i + 47) 14 = -1) ∧ ∃ t, coS Z q X i 1 t) : Met l yX2_go (.code yX2_go cX2_go 4 none :: zTB) (zRm 3 104) (zPc D cy bs sa N kd len X Y R [.ref (bs + (i + 47)), .ref (bs + (j)), .int (zI (b))]) (zQv D cy bs N kd len (fun st => st.2.2 = R ∧ (cfK X (st.1) Y (st.2.1) i ∧ ∃ k : Nat, (k : Int) ≤ mDn Z q ∧ (k = 0 ∨ (k : Int) ≤ b) ∧ ∀ t, coS Z q X i 1 t → goP Z q (st.1) i (X (i + 47) 1) t k ∧ (b ≤ k ∨ mDn Z q ≤ k ∨ csOk (Z q 27).toNat (csSq (cx9 Z q (X (i + 47) 1)) (fW Z q) (fV Z q) (mDn Z q) t k).2.1 (fW Z q k) (fV Z q k) = false)))) 0 0 (zA bs) := w_X2_go hC hR hsm b hb (v_X2_go b hb hp)
abbrev cX2_draw : ByteArray := prog_4_method_11_code
def yX2_draw : MethodName := ⟨RX2, "draw", "(II)V"⟩
theorem dX2_draw_0 : decode cX2_draw 0 = .ok (.iload_n 1, 1) := by decide +kernel
theorem dX2_draw_1 : decode cX2_draw 1 = .ok (.istore_n 3, 1) := by decide +kernel
theorem dX2_draw_2 : decode cX2_draw 2 = .ok (.iconst 0, 1) := by decide +kernel
theorem dX2_draw_3 : decode cX2_draw 3 = .ok (.istore 4, 2) := by decide +kernel
theorem dX2_draw_5 : decode cX2_draw 5 = .ok (.iload 4, 2) := by decide +kernel
theorem dX2_draw_7 : decode cX2_draw 7 = .ok (.iload_n 2, 1) := by decide +kernel
theorem dX2_draw_8 : decode cX2_draw 8 = .ok (.if_icmp .ge 123, 3) := by decide +kernel
theorem dX2_draw_11 : decode cX2_draw 11 = .ok (.iload 4, 2) := by decide +kernel
theorem dX2_draw_13 : decode cX2_draw 13 = .ok (.bipush 60, 2) := by decide +kernel
theorem dX2_draw_15 : decode cX2_draw 15 = .ok (.if_icmp .ge 116, 3) := by decide +kernel
theorem dX2_draw_18 : decode cX2_draw 18 = .ok (.iload_n 3, 1) := by decide +kernel
theorem dX2_draw_19 : decode cX2_draw 19 = .ok (.invokestatic 121, 3) := by decide +kernel
theorem dX2_draw_22 : decode cX2_draw 22 = .ok (.istore_n 3, 1) := by decide +kernel
theorem dX2_draw_23 : decode cX2_draw 23 = .ok (.iload_n 3, 1) := by decide +kernel
theorem dX2_draw_24 : decode cX2_draw 24 = .ok (.bipush 16, 2) := by decide +kernel
theorem dX2_draw_26 : decode cX2_draw 26 = .ok (.iushr, 1) := by decide +kernel
theorem dX2_draw_27 : decode cX2_draw 27 = .ok (.bipush 10, 2) := by decide +kernel
theorem dX2_draw_29 : decode cX2_draw 29 = .ok (.irem, 1) := by decide +kernel
theorem dX2_draw_30 : decode cX2_draw 30 = .ok (.istore 5, 2) := by decide +kernel
theorem dX2_draw_32 : decode cX2_draw 32 = .ok (.iload 5, 2) := by decide +kernel
theorem dX2_draw_34 : decode cX2_draw 34 = .ok (.bipush 9, 2) := by decide +kernel
theorem dX2_draw_36 : decode cX2_draw 36 = .ok (.if_icmp .ge 17, 3) := by decide +kernel
theorem dX2_draw_39 : decode cX2_draw 39 = .ok (.aload_n 0, 1) := by decide +kernel
theorem dX2_draw_40 : decode cX2_draw 40 = .ok (.getfield 15, 3) := by decide +kernel
theorem dX2_draw_43 : decode cX2_draw 43 = .ok (.getfield 91, 3) := by decide +kernel
theorem dX2_draw_46 : decode cX2_draw 46 = .ok (.iconst 1, 1) := by decide +kernel
theorem dX2_draw_47 : decode cX2_draw 47 = .ok (.if_icmp .ge 6, 3) := by decide +kernel
theorem dX2_draw_50 : decode cX2_draw 50 = .ok (.goto 75, 3) := by decide +kernel
theorem dX2_draw_53 : decode cX2_draw 53 = .ok (.iload_n 3, 1) := by decide +kernel
theorem dX2_draw_54 : decode cX2_draw 54 = .ok (.invokestatic 121, 3) := by decide +kernel
theorem dX2_draw_57 : decode cX2_draw 57 = .ok (.istore_n 3, 1) := by decide +kernel
theorem dX2_draw_58 : decode cX2_draw 58 = .ok (.iload 5, 2) := by decide +kernel
theorem dX2_draw_60 : decode cX2_draw 60 = .ok (.bipush 9, 2) := by decide +kernel
theorem dX2_draw_62 : decode cX2_draw 62 = .ok (.if_icmp .ne 18, 3) := by decide +kernel
theorem dX2_draw_65 : decode cX2_draw 65 = .ok (.aload_n 0, 1) := by decide +kernel
theorem dX2_draw_66 : decode cX2_draw 66 = .ok (.iconst 3, 1) := by decide +kernel
theorem dX2_draw_67 : decode cX2_draw 67 = .ok (.iload_n 3, 1) := by decide +kernel
theorem dX2_draw_68 : decode cX2_draw 68 = .ok (.bipush 16, 2) := by decide +kernel
theorem dX2_draw_70 : decode cX2_draw 70 = .ok (.iushr, 1) := by decide +kernel
theorem dX2_draw_71 : decode cX2_draw 71 = .ok (.iconst 2, 1) := by decide +kernel
theorem dX2_draw_72 : decode cX2_draw 72 = .ok (.irem, 1) := by decide +kernel
theorem dX2_draw_73 : decode cX2_draw 73 = .ok (.invokevirtual 68, 3) := by decide +kernel
theorem dX2_draw_76 : decode cX2_draw 76 = .ok (.pop, 1) := by decide +kernel
theorem dX2_draw_77 : decode cX2_draw 77 = .ok (.goto 48, 3) := by decide +kernel
theorem dX2_draw_80 : decode cX2_draw 80 = .ok (.aload_n 0, 1) := by decide +kernel
theorem dX2_draw_81 : decode cX2_draw 81 = .ok (.iload 5, 2) := by decide +kernel
theorem dX2_draw_83 : decode cX2_draw 83 = .ok (.iconst 4, 1) := by decide +kernel
theorem dX2_draw_84 : decode cX2_draw 84 = .ok (.if_icmp .ge 7, 3) := by decide +kernel
theorem dX2_draw_87 : decode cX2_draw 87 = .ok (.iconst 0, 1) := by decide +kernel
theorem dX2_draw_88 : decode cX2_draw 88 = .ok (.goto 15, 3) := by decide +kernel
theorem dX2_draw_91 : decode cX2_draw 91 = .ok (.iload 5, 2) := by decide +kernel
theorem dX2_draw_93 : decode cX2_draw 93 = .ok (.bipush 8, 2) := by decide +kernel
theorem dX2_draw_95 : decode cX2_draw 95 = .ok (.if_icmp .ge 7, 3) := by decide +kernel
theorem dX2_draw_98 : decode cX2_draw 98 = .ok (.iconst 1, 1) := by decide +kernel
theorem dX2_draw_99 : decode cX2_draw 99 = .ok (.goto 4, 3) := by decide +kernel
theorem dX2_draw_102 : decode cX2_draw 102 = .ok (.iconst 2, 1) := by decide +kernel
theorem dX2_draw_103 : decode cX2_draw 103 = .ok (.iconst 1, 1) := by decide +kernel
theorem dX2_draw_104 : decode cX2_draw 104 = .ok (.iload_n 3, 1) := by decide +kernel
theorem dX2_draw_105 : decode cX2_draw 105 = .ok (.bipush 16, 2) := by decide +kernel
theorem dX2_draw_107 : decode cX2_draw 107 = .ok (.iushr, 1) := by decide +kernel
theorem dX2_draw_108 : decode cX2_draw 108 = .ok (.iconst 1, 1) := by decide +kernel
theorem dX2_draw_109 : decode cX2_draw 109 = .ok (.aload_n 0, 1) := by decide +kernel
theorem dX2_draw_110 : decode cX2_draw 110 = .ok (.getfield 15, 3) := by decide +kernel
theorem dX2_draw_113 : decode cX2_draw 113 = .ok (.getfield 91, 3) := by decide +kernel
theorem dX2_draw_116 : decode cX2_draw 116 = .ok (.invokestatic 112, 3) := by decide +kernel
theorem dX2_draw_119 : decode cX2_draw 119 = .ok (.irem, 1) := by decide +kernel
theorem dX2_draw_120 : decode cX2_draw 120 = .ok (.iadd, 1) := by decide +kernel
theorem dX2_draw_121 : decode cX2_draw 121 = .ok (.invokevirtual 68, 3) := by decide +kernel
theorem dX2_draw_124 : decode cX2_draw 124 = .ok (.pop, 1) := by decide +kernel
theorem dX2_draw_125 : decode cX2_draw 125 = .ok (.iinc 4 1, 3) := by decide +kernel
theorem dX2_draw_128 : decode cX2_draw 128 = .ok (.goto (-123), 3) := by decide +kernel
theorem dX2_draw_131 : decode cX2_draw 131 = .ok (.return_, 1) := by decide +kernel
theorem q_1037 : Cond.static yX2_stir ∈ zTB := zmem 1037 (by decide +kernel) rfl
theorem q_1038 : Cond.code yX2_stir cX2_stir 1 (some .int) ∈ zTB := zmem 1038 (by decide +kernel) rfl
theorem q_1036 : Cond.methodLink RX2 121 yX2_stir ∈ zTB := zmem 1036 (by decide +kernel) rfl
theorem k_RX2_121 : zLs RX2 121 yX2_stir cX2_stir 1 (some .int) 1 := ⟨⟨q_1036, q_1037, q_137, q_1038⟩, ⟨by decide, by decide⟩, by decide +kernel⟩
def F_X2_draw (i : Nat) (Z : Nat → Int → Int) (q : Nat) (X Y : Nat → Int → Int) (R : Nat → Int → Option Nat) (a : Int) (b : Int) : Prop := (∀ i j, rI (X i j)) → (∀ i j, rL (Y i j)) → (∃ kn : Nat, (0 : Int) = kn ∧ kn ≤ 60 ∧ (kn = 0 ∨ (kn : Int) ≤ b) ∧ cfK X X Y Y i ∧ (0 ≤ X (i + 47) 9 ∧ X (i + 47) 9 ≤ kn) ∧ ∀ t, coS Z q X i 1 t → a = (csDn (cx9 Z q (X (i + 47) 1)) (a, t) kn).1 ∧ coS Z q X i (1 + 15 * kn) (csDn (cx9 Z q (X (i + 47) 1)) (a, t) kn).2) ∧ (∀ (u : Int) (k : Int) (X2 : Nat → Int → Int) (Y3 : Nat → Int → Int), rI u → rI k → (∀ i j, rI (X2 i j)) → (∀ i j, rL (Y3 i j)) → (∃ kn : Nat, k = kn ∧ kn ≤ 60 ∧ (kn = 0 ∨ (kn : Int) ≤ b) ∧ cfK X X2 Y Y3 i ∧ (0 ≤ X2 (i + 47) 9 ∧ X2 (i + 47) 9 ≤ kn) ∧ ∀ t, coS Z q X i 1 t → u = (csDn (cx9 Z q (X (i + 47) 1)) (a, t) kn).1 ∧ coS Z q X2 i (1 + 15 * kn) (csDn (cx9 Z q (X (i + 47) 1)) (a, t) kn).2) → (((b ≤ k) → (cfK X (X2) Y (Y3) i ∧ ∀ t, coS Z q X i 1 t → coS Z q (X2) i 1000 (csDn (cx9 Z q (X (i + 47) 1)) (a, t) (max 0 (min b 60)).toNat).2)) ∧ ((¬ (b ≤ k)) → (((60 ≤ k) → (cfK X (X2) Y (Y3) i ∧ ∀ t, coS Z q X i 1 t → coS Z q (X2) i 1000 (csDn (cx9 Z q (X (i + 47) 1)) (a, t) (max 0 (min b 60)).toNat).2)) ∧ ((¬ (60 ≤ k)) → (rI (drS (u)) → (((9 ≤ ((zUsh (drS (u)) (16)).tmod (10))) → (rI (drS (drS (u))) → (((¬ ((zUsh (drS (u)) (16)).tmod (10)) = 9) → (((4 ≤ ((zUsh (drS (u)) (16)).tmod (10))) → (((8 ≤ ((zUsh (drS (u)) (16)).tmod (10))) → ((max (1) (X2 (i) 2) ≠ 0 ∧ max (1) (X2 (i) 2) ≠ -1) ∧ ((rI (1 + ((zUsh (drS (drS (u))) (16)).tmod (max (1) (X2 (i) 2))))) ∧ (((cA Z q X2 Y3 R i ∧ (0 ≤ X2 (i + 47) 9 ∧ X2 (i + 47) 9 ≤ 100000)) ∧ ((0 ≤ ((2 : Int)) ∧ ((2 : Int)) ≤ 3) ∧ (((2 : Int)) = 3 → 0 ≤ ((1 + ((zUsh (drS (drS (u))) (16)).tmod (max (1) (X2 (i) 2))))) ∧ ((1 + ((zUsh (drS (drS (u))) (16)).tmod (max (1) (X2 (i) 2))))) ≤ 1)) ∧ ∃ bb t, bb ≤ 900000 ∧ coS Z q X2 i bb t) ∧ (∀ r17 : Bool, ∀ X15 : Nat → Int → Int, (∀ i j, rI (X15 i j)) → ∀ Y16 : Nat → Int → Int, (∀ i j, rL (Y16 i j)) → (r17 = csOk (Z q 27).toNat (coX X2 i) ((2 : Int)) ((1 + ((zUsh (drS (drS (u))) (16)).tmod (max (1) (X2 (i) 2))))) ∧ (r17 = false → (X15) = X2 ∧ (Y16) = Y3) ∧ (r17 = true → cfK X2 (X15) Y3 (Y16) i ∧ ac14 X2 (X15) i ∧ ∀ bb t, coS Z q X2 i bb t → coS Z q (X15) i (bb + 15) (csDo (cx9 Z q (X2 (i + 47) 1)) t ((2 : Int)) ((1 + ((zUsh (drS (drS (u))) (16)).tmod (max (1) (X2 (i) 2)))))))) → ((rI (k + 1)) ∧ (∃ kn : Nat, (k + 1) = kn ∧ kn ≤ 60 ∧ (kn = 0 ∨ (kn : Int) ≤ b) ∧ cfK X X15 Y Y16 i ∧ (0 ≤ X15 (i + 47) 9 ∧ X15 (i + 47) 9 ≤ kn) ∧ ∀ t, coS Z q X i 1 t → (drS (drS (u))) = (csDn (cx9 Z q (X (i + 47) 1)) (a, t) kn).1 ∧ coS Z q X15 i (1 + 15 * kn) (csDn (cx9 Z q (X (i + 47) 1)) (a, t) kn).2) ∧ (((100 - (k + 1)).toNat) < ((100 - (k)).toNat)))))))) ∧ ((¬ (8 ≤ ((zUsh (drS (u)) (16)).tmod (10)))) → ((max (1) (X2 (i) 2) ≠ 0 ∧ max (1) (X2 (i) 2) ≠ -1) ∧ ((rI (1 + ((zUsh (drS (drS (u))) (16)).tmod (max (1) (X2 (i) 2))))) ∧ (((cA Z q X2 Y3 R i ∧ (0 ≤ X2 (i + 47) 9 ∧ X2 (i + 47) 9 ≤ 100000)) ∧ ((0 ≤ ((1 : Int)) ∧ ((1 : Int)) ≤ 3) ∧ (((1 : Int)) = 3 → 0 ≤ ((1 + ((zUsh (drS (drS (u))) (16)).tmod (max (1) (X2 (i) 2))))) ∧ ((1 + ((zUsh (drS (drS (u))) (16)).tmod (max (1) (X2 (i) 2))))) ≤ 1)) ∧ ∃ bb t, bb ≤ 900000 ∧ coS Z q X2 i bb t) ∧ (∀ r24 : Bool, ∀ X22 : Nat → Int → Int, (∀ i j, rI (X22 i j)) → ∀ Y23 : Nat → Int → Int, (∀ i j, rL (Y23 i j)) → (r24 = csOk (Z q 27).toNat (coX X2 i) ((1 : Int)) ((1 + ((zUsh (drS (drS (u))) (16)).tmod (max (1) (X2 (i) 2))))) ∧ (r24 = false → (X22) = X2 ∧ (Y23) = Y3) ∧ (r24 = true → cfK X2 (X22) Y3 (Y23) i ∧ ac14 X2 (X22) i ∧ ∀ bb t, coS Z q X2 i bb t → coS Z q (X22) i (bb + 15) (csDo (cx9 Z q (X2 (i + 47) 1)) t ((1 : Int)) ((1 + ((zUsh (drS (drS (u))) (16)).tmod (max (1) (X2 (i) 2)))))))) → ((rI (k + 1)) ∧ (∃ kn : Nat, (k + 1) = kn ∧ kn ≤ 60 ∧ (kn = 0 ∨ (kn : Int) ≤ b) ∧ cfK X X22 Y Y23 i ∧ (0 ≤ X22 (i + 47) 9 ∧ X22 (i + 47) 9 ≤ kn) ∧ ∀ t, coS Z q X i 1 t → (drS (drS (u))) = (csDn (cx9 Z q (X (i + 47) 1)) (a, t) kn).1 ∧ coS Z q X22 i (1 + 15 * kn) (csDn (cx9 Z q (X (i + 47) 1)) (a, t) kn).2) ∧ (((100 - (k + 1)).toNat) < ((100 - (k)).toNat)))))))))) ∧ ((¬ (4 ≤ ((zUsh (drS (u)) (16)).tmod (10)))) → ((max (1) (X2 (i) 2) ≠ 0 ∧ max (1) (X2 (i) 2) ≠ -1) ∧ ((rI (1 + ((zUsh (drS (drS (u))) (16)).tmod (max (1) (X2 (i) 2))))) ∧ (((cA Z q X2 Y3 R i ∧ (0 ≤ X2 (i + 47) 9 ∧ X2 (i + 47) 9 ≤ 100000)) ∧ ((0 ≤ ((0 : Int)) ∧ ((0 : Int)) ≤ 3) ∧ (((0 : Int)) = 3 → 0 ≤ ((1 + ((zUsh (drS (drS (u))) (16)).tmod (max (1) (X2 (i) 2))))) ∧ ((1 + ((zUsh (drS (drS (u))) (16)).tmod (max (1) (X2 (i) 2))))) ≤ 1)) ∧ ∃ bb t, bb ≤ 900000 ∧ coS Z q X2 i bb t) ∧ (∀ r31 : Bool, ∀ X29 : Nat → Int → Int, (∀ i j, rI (X29 i j)) → ∀ Y30 : Nat → Int → Int, (∀ i j, rL (Y30 i j)) → (r31 = csOk (Z q 27).toNat (coX X2 i) ((0 : Int)) ((1 + ((zUsh (drS (drS (u))) (16)).tmod (max (1) (X2 (i) 2))))) ∧ (r31 = false → (X29) = X2 ∧ (Y30) = Y3) ∧ (r31 = true → cfK X2 (X29) Y3 (Y30) i ∧ ac14 X2 (X29) i ∧ ∀ bb t, coS Z q X2 i bb t → coS Z q (X29) i (bb + 15) (csDo (cx9 Z q (X2 (i + 47) 1)) t ((0 : Int)) ((1 + ((zUsh (drS (drS (u))) (16)).tmod (max (1) (X2 (i) 2)))))))) → ((rI (k + 1)) ∧ (∃ kn : Nat, (k + 1) = kn ∧ kn ≤ 60 ∧ (kn = 0 ∨ (kn : Int) ≤ b) ∧ cfK X X29 Y Y30 i ∧ (0 ≤ X29 (i + 47) 9 ∧ X29 (i + 47) 9 ≤ kn) ∧ ∀ t, coS Z q X i 1 t → (drS (drS (u))) = (csDn (cx9 Z q (X (i + 47) 1)) (a, t) kn).1 ∧ coS Z q X29 i (1 + 15 * kn) (csDn (cx9 Z q (X (i + 47) 1)) (a, t) kn).2) ∧ (((100 - (k + 1)).toNat) < ((100 - (k)).toNat)))))))))) ∧ ((¬ (¬ ((zUsh (drS (u)) (16)).tmod (10)) = 9)) → (((cA Z q X2 Y3 R i ∧ (0 ≤ X2 (i + 47) 9 ∧ X2 (i + 47) 9 ≤ 100000)) ∧ ((0 ≤ ((3 : Int)) ∧ ((3 : Int)) ≤ 3) ∧ (((3 : Int)) = 3 → 0 ≤ (((zUsh (drS (drS (u))) (16)).tmod (2))) ∧ (((zUsh (drS (drS (u))) (16)).tmod (2))) ≤ 1)) ∧ ∃ bb t, bb ≤ 900000 ∧ coS Z q X2 i bb t) ∧ (∀ r36 : Bool, ∀ X34 : Nat → Int → Int, (∀ i j, rI (X34 i j)) → ∀ Y35 : Nat → Int → Int, (∀ i j, rL (Y35 i j)) → (r36 = csOk (Z q 27).toNat (coX X2 i) ((3 : Int)) (((zUsh (drS (drS (u))) (16)).tmod (2))) ∧ (r36 = false → (X34) = X2 ∧ (Y35) = Y3) ∧ (r36 = true → cfK X2 (X34) Y3 (Y35) i ∧ ac14 X2 (X34) i ∧ ∀ bb t, coS Z q X2 i bb t → coS Z q (X34) i (bb + 15) (csDo (cx9 Z q (X2 (i + 47) 1)) t ((3 : Int)) (((zUsh (drS (drS (u))) (16)).tmod (2)))))) → ((rI (k + 1)) ∧ (∃ kn : Nat, (k + 1) = kn ∧ kn ≤ 60 ∧ (kn = 0 ∨ (kn : Int) ≤ b) ∧ cfK X X34 Y Y35 i ∧ (0 ≤ X34 (i + 47) 9 ∧ X34 (i + 47) 9 ≤ kn) ∧ ∀ t, coS Z q X i 1 t → (drS (drS (u))) = (csDn (cx9 Z q (X (i + 47) 1)) (a, t) kn).1 ∧ coS Z q X34 i (1 + 15 * kn) (csDn (cx9 Z q (X (i + 47) 1)) (a, t) kn).2) ∧ (((100 - (k + 1)).toNat) < ((100 - (k)).toNat))))))))) ∧ ((¬ (9 ≤ ((zUsh (drS (u)) (16)).tmod (10)))) → (((1 ≤ (X2 (i) 2)) → (rI (drS (drS (u))) → (((¬ ((zUsh (drS (u)) (16)).tmod (10)) = 9) → (((4 ≤ ((zUsh (drS (u)) (16)).tmod (10))) → (((8 ≤ ((zUsh (drS (u)) (16)).tmod (10))) → ((max (1) (X2 (i) 2) ≠ 0 ∧ max (1) (X2 (i) 2) ≠ -1) ∧ ((rI (1 + ((zUsh (drS (drS (u))) (16)).tmod (max (1) (X2 (i) 2))))) ∧ (((cA Z q X2 Y3 R i ∧ (0 ≤ X2 (i + 47) 9 ∧ X2 (i + 47) 9 ≤ 100000)) ∧ ((0 ≤ ((2 : Int)) ∧ ((2 : Int)) ≤ 3) ∧ (((2 : Int)) = 3 → 0 ≤ ((1 + ((zUsh (drS (drS (u))) (16)).tmod (max (1) (X2 (i) 2))))) ∧ ((1 + ((zUsh (drS (drS (u))) (16)).tmod (max (1) (X2 (i) 2))))) ≤ 1)) ∧ ∃ bb t, bb ≤ 900000 ∧ coS Z q X2 i bb t) ∧ (∀ r48 : Bool, ∀ X46 : Nat → Int → Int, (∀ i j, rI (X46 i j)) → ∀ Y47 : Nat → Int → Int, (∀ i j, rL (Y47 i j)) → (r48 = csOk (Z q 27).toNat (coX X2 i) ((2 : Int)) ((1 + ((zUsh (drS (drS (u))) (16)).tmod (max (1) (X2 (i) 2))))) ∧ (r48 = false → (X46) = X2 ∧ (Y47) = Y3) ∧ (r48 = true → cfK X2 (X46) Y3 (Y47) i ∧ ac14 X2 (X46) i ∧ ∀ bb t, coS Z q X2 i bb t → coS Z q (X46) i (bb + 15) (csDo (cx9 Z q (X2 (i + 47) 1)) t ((2 : Int)) ((1 + ((zUsh (drS (drS (u))) (16)).tmod (max (1) (X2 (i) 2)))))))) → ((rI (k + 1)) ∧ (∃ kn : Nat, (k + 1) = kn ∧ kn ≤ 60 ∧ (kn = 0 ∨ (kn : Int) ≤ b) ∧ cfK X X46 Y Y47 i ∧ (0 ≤ X46 (i + 47) 9 ∧ X46 (i + 47) 9 ≤ kn) ∧ ∀ t, coS Z q X i 1 t → (drS (drS (u))) = (csDn (cx9 Z q (X (i + 47) 1)) (a, t) kn).1 ∧ coS Z q X46 i (1 + 15 * kn) (csDn (cx9 Z q (X (i + 47) 1)) (a, t) kn).2) ∧ (((100 - (k + 1)).toNat) < ((100 - (k)).toNat)))))))) ∧ ((¬ (8 ≤ ((zUsh (drS (u)) (16)).tmod (10)))) → ((max (1) (X2 (i) 2) ≠ 0 ∧ max (1) (X2 (i) 2) ≠ -1) ∧ ((rI (1 + ((zUsh (drS (drS (u))) (16)).tmod (max (1) (X2 (i) 2))))) ∧ (((cA Z q X2 Y3 R i ∧ (0 ≤ X2 (i + 47) 9 ∧ X2 (i + 47) 9 ≤ 100000)) ∧ ((0 ≤ ((1 : Int)) ∧ ((1 : Int)) ≤ 3) ∧ (((1 : Int)) = 3 → 0 ≤ ((1 + ((zUsh (drS (drS (u))) (16)).tmod (max (1) (X2 (i) 2))))) ∧ ((1 + ((zUsh (drS (drS (u))) (16)).tmod (max (1) (X2 (i) 2))))) ≤ 1)) ∧ ∃ bb t, bb ≤ 900000 ∧ coS Z q X2 i bb t) ∧ (∀ r55 : Bool, ∀ X53 : Nat → Int → Int, (∀ i j, rI (X53 i j)) → ∀ Y54 : Nat → Int → Int, (∀ i j, rL (Y54 i j)) → (r55 = csOk (Z q 27).toNat (coX X2 i) ((1 : Int)) ((1 + ((zUsh (drS (drS (u))) (16)).tmod (max (1) (X2 (i) 2))))) ∧ (r55 = false → (X53) = X2 ∧ (Y54) = Y3) ∧ (r55 = true → cfK X2 (X53) Y3 (Y54) i ∧ ac14 X2 (X53) i ∧ ∀ bb t, coS Z q X2 i bb t → coS Z q (X53) i (bb + 15) (csDo (cx9 Z q (X2 (i + 47) 1)) t ((1 : Int)) ((1 + ((zUsh (drS (drS (u))) (16)).tmod (max (1) (X2 (i) 2)))))))) → ((rI (k + 1)) ∧ (∃ kn : Nat, (k + 1) = kn ∧ kn ≤ 60 ∧ (kn = 0 ∨ (kn : Int) ≤ b) ∧ cfK X X53 Y Y54 i ∧ (0 ≤ X53 (i + 47) 9 ∧ X53 (i + 47) 9 ≤ kn) ∧ ∀ t, coS Z q X i 1 t → (drS (drS (u))) = (csDn (cx9 Z q (X (i + 47) 1)) (a, t) kn).1 ∧ coS Z q X53 i (1 + 15 * kn) (csDn (cx9 Z q (X (i + 47) 1)) (a, t) kn).2) ∧ (((100 - (k + 1)).toNat) < ((100 - (k)).toNat)))))))))) ∧ ((¬ (4 ≤ ((zUsh (drS (u)) (16)).tmod (10)))) → ((max (1) (X2 (i) 2) ≠ 0 ∧ max (1) (X2 (i) 2) ≠ -1) ∧ ((rI (1 + ((zUsh (drS (drS (u))) (16)).tmod (max (1) (X2 (i) 2))))) ∧ (((cA Z q X2 Y3 R i ∧ (0 ≤ X2 (i + 47) 9 ∧ X2 (i + 47) 9 ≤ 100000)) ∧ ((0 ≤ ((0 : Int)) ∧ ((0 : Int)) ≤ 3) ∧ (((0 : Int)) = 3 → 0 ≤ ((1 + ((zUsh (drS (drS (u))) (16)).tmod (max (1) (X2 (i) 2))))) ∧ ((1 + ((zUsh (drS (drS (u))) (16)).tmod (max (1) (X2 (i) 2))))) ≤ 1)) ∧ ∃ bb t, bb ≤ 900000 ∧ coS Z q X2 i bb t) ∧ (∀ r62 : Bool, ∀ X60 : Nat → Int → Int, (∀ i j, rI (X60 i j)) → ∀ Y61 : Nat → Int → Int, (∀ i j, rL (Y61 i j)) → (r62 = csOk (Z q 27).toNat (coX X2 i) ((0 : Int)) ((1 + ((zUsh (drS (drS (u))) (16)).tmod (max (1) (X2 (i) 2))))) ∧ (r62 = false → (X60) = X2 ∧ (Y61) = Y3) ∧ (r62 = true → cfK X2 (X60) Y3 (Y61) i ∧ ac14 X2 (X60) i ∧ ∀ bb t, coS Z q X2 i bb t → coS Z q (X60) i (bb + 15) (csDo (cx9 Z q (X2 (i + 47) 1)) t ((0 : Int)) ((1 + ((zUsh (drS (drS (u))) (16)).tmod (max (1) (X2 (i) 2)))))))) → ((rI (k + 1)) ∧ (∃ kn : Nat, (k + 1) = kn ∧ kn ≤ 60 ∧ (kn = 0 ∨ (kn : Int) ≤ b) ∧ cfK X X60 Y Y61 i ∧ (0 ≤ X60 (i + 47) 9 ∧ X60 (i + 47) 9 ≤ kn) ∧ ∀ t, coS Z q X i 1 t → (drS (drS (u))) = (csDn (cx9 Z q (X (i + 47) 1)) (a, t) kn).1 ∧ coS Z q X60 i (1 + 15 * kn) (csDn (cx9 Z q (X (i + 47) 1)) (a, t) kn).2) ∧ (((100 - (k + 1)).toNat) < ((100 - (k)).toNat)))))))))) ∧ ((¬ (¬ ((zUsh (drS (u)) (16)).tmod (10)) = 9)) → (((cA Z q X2 Y3 R i ∧ (0 ≤ X2 (i + 47) 9 ∧ X2 (i + 47) 9 ≤ 100000)) ∧ ((0 ≤ ((3 : Int)) ∧ ((3 : Int)) ≤ 3) ∧ (((3 : Int)) = 3 → 0 ≤ (((zUsh (drS (drS (u))) (16)).tmod (2))) ∧ (((zUsh (drS (drS (u))) (16)).tmod (2))) ≤ 1)) ∧ ∃ bb t, bb ≤ 900000 ∧ coS Z q X2 i bb t) ∧ (∀ r67 : Bool, ∀ X65 : Nat → Int → Int, (∀ i j, rI (X65 i j)) → ∀ Y66 : Nat → Int → Int, (∀ i j, rL (Y66 i j)) → (r67 = csOk (Z q 27).toNat (coX X2 i) ((3 : Int)) (((zUsh (drS (drS (u))) (16)).tmod (2))) ∧ (r67 = false → (X65) = X2 ∧ (Y66) = Y3) ∧ (r67 = true → cfK X2 (X65) Y3 (Y66) i ∧ ac14 X2 (X65) i ∧ ∀ bb t, coS Z q X2 i bb t → coS Z q (X65) i (bb + 15) (csDo (cx9 Z q (X2 (i + 47) 1)) t ((3 : Int)) (((zUsh (drS (drS (u))) (16)).tmod (2)))))) → ((rI (k + 1)) ∧ (∃ kn : Nat, (k + 1) = kn ∧ kn ≤ 60 ∧ (kn = 0 ∨ (kn : Int) ≤ b) ∧ cfK X X65 Y Y66 i ∧ (0 ≤ X65 (i + 47) 9 ∧ X65 (i + 47) 9 ≤ kn) ∧ ∀ t, coS Z q X i 1 t → (drS (drS (u))) = (csDn (cx9 Z q (X (i + 47) 1)) (a, t) kn).1 ∧ coS Z q X65 i (1 + 15 * kn) (csDn (cx9 Z q (X (i + 47) 1)) (a, t) kn).2) ∧ (((100 - (k + 1)).toNat) < ((100 - (k)).toNat))))))))) ∧ ((¬ (1 ≤ (X2 (i) 2))) → ((rI (k + 1)) ∧ (∃ kn : Nat, (k + 1) = kn ∧ kn ≤ 60 ∧ (kn = 0 ∨ (kn : Int) ≤ b) ∧ cfK X X2 Y Y3 i ∧ (0 ≤ X2 (i + 47) 9 ∧ X2 (i + 47) 9 ≤ kn) ∧ ∀ t, coS Z q X i 1 t → (drS (u)) = (csDn (cx9 Z q (X (i + 47) 1)) (a, t) kn).1 ∧ coS Z q X2 i (1 + 15 * kn) (csDn (cx9 Z q (X (i + 47) 1)) (a, t) kn).2) ∧ (((100 - (k + 1)).toNat) < ((100 - (k)).toNat)))))))))))))
set_option maxHeartbeats 4000000 in
set_option maxRecDepth 100000 in
theorem w_X2_draw {l : Launch} {D : va_G} {cy : Nat → ClassId} {bs N : Nat} {sa : Nat → Nat} {kd len : Nat → Nat} {X Y : Nat → Int → Int} {R : Nat → Int → Option Nat} {i : Nat} {Z : Nat → Int → Int} {q : Nat} (hC : zCourse N kd len R i) (a : Int) (ha : rI a) (b : Int) (hb : rI b) (hF : F_X2_draw i Z q X Y R a b) : Met l yX2_draw (.code yX2_draw cX2_draw 6 none :: zTB) (zRm 3 104) (zPc D cy bs sa N kd len X Y R [.ref (bs + (i + 47)), .int (zI (a)), .int (zI (b))]) (zQv D cy bs N kd len (fun st => st.2.2 = R ∧ (cfK X (st.1) Y (st.2.1) i ∧ ∀ t, coS Z q X i 1 t → coS Z q (st.1) i 1000 (csDn (cx9 Z q (X (i + 47) 1)) (a, t) (max 0 (min b 60)).toNat).2))) 0 0 (zA bs) := by
  refine zstart (by decide) (Nat.le_of_ble_eq_true rfl) ?_
  intro p e s m args below meth c ls C hE hH hr hlk hnm hl hargs
  have hF := hF hH.2.2.1 hH.2.2.2
  have hS : va_S (zA bs) s.heap s.heap [] := va_S.rf
  have hl : lv_has ls 6 [(0, .ref (bs + (i + 47))), (1, .int (zI (a))), (2, .int (zI (b)))] := hl
  refine lv_iload_n C.1 C.2.1 dX2_draw_0 rfl (lv_at hl 1 rfl) ?_
  refine lv_istore_n (lv' := [(3, .int (zI (a))), (0, .ref (bs + (i + 47))), (1, .int (zI (a))), (2, .int (zI (b)))]) C.1 C.2.1 dX2_draw_1 rfl hl (by decide) rfl (fun ls hl => ?_)
  refine zd_iconst C dX2_draw_2 ?_
  refine lv_istore (lv' := [(4, .int (zI (0))), (3, .int (zI (a))), (0, .ref (bs + (i + 47))), (1, .int (zI (a))), (2, .int (zI (b)))]) C.1 C.2.1 dX2_draw_3 hl (by decide) rfl (fun ls hl => ?_)
  obtain ⟨hI1, hF⟩ := hF
  have L1 : ∀ (fu : Nat) (u : Int) (k : Int) (X2 : Nat → Int → Int) (Y3 : Nat → Int → Int), rI u → rI k → (∃ kn : Nat, k = kn ∧ kn ≤ 60 ∧ (kn = 0 ∨ (kn : Int) ≤ b) ∧ cfK X X2 Y Y3 i ∧ (0 ≤ X2 (i + 47) 9 ∧ X2 (i + 47) 9 ≤ kn) ∧ ∀ t, coS Z q X i 1 t → u = (csDn (cx9 Z q (X (i + 47) 1)) (a, t) kn).1 ∧ coS Z q X2 i (1 + 15 * kn) (csDn (cx9 Z q (X (i + 47) 1)) (a, t) kn).2) → ((100 - (k)).toNat) < fu → ∀ (H : Heap) (locs : List Loc) (ls : Array Slot), zH D cy bs N kd len X2 Y3 R H → va_S (zA bs) s.heap H locs → lv_has ls 6 [(3, .int (zI (u))), (4, .int (zI (k))), (0, .ref (bs + (i + 47))), (1, .int (zI (a))), (2, .int (zI (b)))] → W p l e (zRm 3 104) s m args below meth c H locs 0 0 (MQ below (zQv D cy bs N kd len (fun st => st.2.2 = R ∧ (cfK X (st.1) Y (st.2.1) i ∧ ∀ t, coS Z q X i 1 t → coS Z q (st.1) i 1000 (csDn (cx9 Z q (X (i + 47) 1)) (a, t) (max 0 (min b 60)).toNat).2))) args s 0 0 (zA bs)) (F0 m 5 ls []) := by
    intro fu
    induction fu with
    | zero => intro u k X2 Y3 _ _ _ hmu; exact absurd hmu (Nat.not_lt_zero _)
    | succ fu ih1 =>
      intro u k X2 Y3 hu hk hI hmu1 H locs ls hH hS hl
      have hF := hF u k X2 Y3 hu hk hH.2.2.1 hH.2.2.2 hI
      refine lv_iload C.1 C.2.1 dX2_draw_5 (lv_at hl 1 rfl) ?_
      refine lv_iload_n C.1 C.2.1 dX2_draw_7 rfl (lv_at hl 4 rfl) ?_
      refine zd_icmp_ge C hk hb 131 dX2_draw_8 (by decide) (fun c4 => ?_) (fun c4 => ?_)
      · have hF := hF.1 c4
        exact zd_vret C hr hlk hH hS (⟨rfl, hF⟩) dX2_draw_131
      · have hF := hF.2 c4
        refine lv_iload C.1 C.2.1 dX2_draw_11 (lv_at hl 1 rfl) ?_
        refine zd_bipush C (by decide) dX2_draw_13 ?_
        refine zd_icmp_ge C hk (by decide) 131 dX2_draw_15 (by decide) (fun c5 => ?_) (fun c5 => ?_)
        · have hF := hF.1 c5
          exact zd_vret C hr hlk hH hS (⟨rfl, hF⟩) dX2_draw_131
        · have hF := hF.2 c5
          refine lv_iload_n C.1 C.2.1 dX2_draw_18 rfl (lv_at hl 0 rfl) ?_
          refine zgoi (zrunS (As := [.int (zI (u))]) (rest := []) C hE hH hS hl.1 (c_X2_stir (l := l)  (u) hu) k_RX2_121 ⟨Nat.le_of_ble_eq_true rfl, Nat.le_of_ble_eq_true rfl⟩ rfl (Nat.le_of_ble_eq_true rfl) dX2_draw_19 ⟨Nat.zero_le _, Nat.zero_le _⟩) hS (fun rq Xq Yq Rq H locs hrq hq hH hS => ?_)
          obtain ⟨h91, h92⟩ := hq
          have h93 : Xq = X2 := congrArg (fun z => z.1) h92
          have h94 : Yq = Y3 := congrArg (fun z => z.2.1) h92
          have h95 : Rq = R := congrArg (fun z => z.2.2) h92
          rw [h93, h94, h95] at hH
          subst h91
          have hr6 := hrq
          have hF := hF hr6
          refine lv_istore_n (lv' := [(3, .int (zI (drS (u)))), (4, .int (zI (k))), (0, .ref (bs + (i + 47))), (1, .int (zI (a))), (2, .int (zI (b)))]) C.1 C.2.1 dX2_draw_22 rfl hl (by decide) rfl (fun ls hl => ?_)
          refine lv_iload_n C.1 C.2.1 dX2_draw_23 rfl (lv_at hl 0 rfl) ?_
          refine zd_bipush C (by decide) dX2_draw_24 ?_
          refine zd_iushr C dX2_draw_26 ?_
          refine zd_bipush C (by decide) dX2_draw_27 ?_
          refine zd_irem C (zI_rg _) (by decide) (by decide) (by decide) dX2_draw_29 ?_
          refine lv_istore (lv' := [(5, .int (zI ((zUsh (drS (u)) (16)).tmod (10)))), (3, .int (zI (drS (u)))), (4, .int (zI (k))), (0, .ref (bs + (i + 47))), (1, .int (zI (a))), (2, .int (zI (b)))]) C.1 C.2.1 dX2_draw_30 hl (by decide) rfl (fun ls hl => ?_)
          refine lv_iload C.1 C.2.1 dX2_draw_32 (lv_at hl 0 rfl) ?_
          refine zd_bipush C (by decide) dX2_draw_34 ?_
          refine zd_icmp_ge C (tmod_rI (zI_rg _) (show (10 : Int) ≠ -1 from (by decide))) (by decide) 53 dX2_draw_36 (by decide) (fun c7 => ?_) (fun c7 => ?_)
          · have hF := hF.1 c7
            refine lv_iload_n C.1 C.2.1 dX2_draw_53 rfl (lv_at hl 1 rfl) ?_
            refine zgoi (zrunS (As := [.int (zI (drS (u)))]) (rest := []) C hE hH hS hl.1 (c_X2_stir (l := l)  (drS (u)) hr6) k_RX2_121 ⟨Nat.le_of_ble_eq_true rfl, Nat.le_of_ble_eq_true rfl⟩ rfl (Nat.le_of_ble_eq_true rfl) dX2_draw_54 ⟨Nat.zero_le _, Nat.zero_le _⟩) hS (fun rq Xq Yq Rq H locs hrq hq hH hS => ?_)
            obtain ⟨h91, h92⟩ := hq
            have h93 : Xq = X2 := congrArg (fun z => z.1) h92
            have h94 : Yq = Y3 := congrArg (fun z => z.2.1) h92
            have h95 : Rq = R := congrArg (fun z => z.2.2) h92
            rw [h93, h94, h95] at hH
            subst h91
            have hr8 := hrq
            have hF := hF hr8
            refine lv_istore_n (lv' := [(3, .int (zI (drS (drS (u))))), (5, .int (zI ((zUsh (drS (u)) (16)).tmod (10)))), (4, .int (zI (k))), (0, .ref (bs + (i + 47))), (1, .int (zI (a))), (2, .int (zI (b)))]) C.1 C.2.1 dX2_draw_57 rfl hl (by decide) rfl (fun ls hl => ?_)
            refine lv_iload C.1 C.2.1 dX2_draw_58 (lv_at hl 1 rfl) ?_
            refine zd_bipush C (by decide) dX2_draw_60 ?_
            refine zd_icmp_ne C (tmod_rI (zI_rg _) (show (10 : Int) ≠ -1 from (by decide))) (by decide) 80 dX2_draw_62 (by decide) (fun c9 => ?_) (fun c9 => ?_)
            · have hF := hF.1 c9
              refine lv_aload_n C.1 C.2.1 dX2_draw_80 rfl (lv_at hl 3 rfl) ?_
              refine lv_iload C.1 C.2.1 dX2_draw_81 (lv_at hl 1 rfl) ?_
              refine zd_iconst C dX2_draw_83 ?_
              refine zd_icmp_ge C (tmod_rI (zI_rg _) (show (10 : Int) ≠ -1 from (by decide))) (by decide) 91 dX2_draw_84 (by decide) (fun c10 => ?_) (fun c10 => ?_)
              · have hF := hF.1 c10
                refine lv_iload C.1 C.2.1 dX2_draw_91 (lv_at hl 1 rfl) ?_
                refine zd_bipush C (by decide) dX2_draw_93 ?_
                refine zd_icmp_ge C (tmod_rI (zI_rg _) (show (10 : Int) ≠ -1 from (by decide))) (by decide) 102 dX2_draw_95 (by decide) (fun c11 => ?_) (fun c11 => ?_)
                · have hF := hF.1 c11
                  refine zd_iconst C dX2_draw_102 ?_
                  refine zd_iconst C dX2_draw_103 ?_
                  refine lv_iload_n C.1 C.2.1 dX2_draw_104 rfl (lv_at hl 0 rfl) ?_
                  refine zd_bipush C (by decide) dX2_draw_105 ?_
                  refine zd_iushr C dX2_draw_107 ?_
                  refine zd_iconst C dX2_draw_108 ?_
                  refine lv_aload_n C.1 C.2.1 dX2_draw_109 rfl (lv_at hl 3 rfl) ?_
                  refine zg2_0 C hH (zCo_n hC) (zCo_k hC) q_448 (zCo_r0 hC) dX2_draw_110 ?_
                  refine zg1_2 C hH (zChart_n0 hC.1) (zChart_k0 hC.1) q_397 dX2_draw_113 ?_
                  refine zd_mmax C hl.1 q_1006 q_805 q_141 q_806 (Nat.le_of_ble_eq_true rfl) (Nat.le_of_ble_eq_true rfl) (Nat.zero_le _) (Nat.zero_le _) (by decide) (hH.2.2.1 _ _) dX2_draw_116 ?_
                  obtain ⟨o12, hF⟩ := hF
                  refine zd_irem C (zI_rg _) (mx_rI (by decide) (hH.2.2.1 _ _)) o12.1 o12.2 dX2_draw_119 ?_
                  refine zd_iadd C dX2_draw_120 ?_
                  obtain ⟨o13, hF⟩ := hF
                  obtain ⟨o14, hF⟩ := hF
                  refine zgoi (zrunV (As := [.int (zI (2)), .int (zI (1 + ((zUsh (drS (drS (u))) (16)).tmod (max (1) (X2 (i) 2)))))]) (rest := []) C hE hH hS hl.1 (c_X2_act (l := l) hC (2) (by decide) (1 + ((zUsh (drS (drS (u))) (16)).tmod (max (1) (X2 (i) 2)))) o13 o14) k_RX2_68 ⟨Nat.le_of_ble_eq_true rfl, Nat.le_of_ble_eq_true rfl⟩ (zCo_n hC) (zCo_k hC) rfl rfl rfl (Nat.le_of_ble_eq_true rfl) dX2_draw_121 ⟨Nat.zero_le _, Nat.zero_le _⟩) hS (fun rq X15 Y16 Rq H locs hrq hq hH hS => ?_)
                  obtain ⟨h9R, hq⟩ := hq
                  dsimp only at h9R
                  rw [h9R] at hH
                  obtain ⟨r17, h91, hq⟩ := hq
                  subst h91
                  have hF := hF r17 X15 hH.2.2.1 Y16 hH.2.2.2 hq
                  refine lv_pop C.1 C.2.1 dX2_draw_124 rfl ?_
                  refine zd_iinc (k := 2) (lv' := [(4, .int (zI (k + 1))), (3, .int (zI (drS (drS (u))))), (5, .int (zI ((zUsh (drS (u)) (16)).tmod (10)))), (0, .ref (bs + (i + 47))), (1, .int (zI (a))), (2, .int (zI (b)))]) C hl rfl dX2_draw_125 (by decide) rfl (fun ls hl => ?_)
                  refine lv_goto (tgt := 5) C.1 C.2.1 dX2_draw_128 (by decide) ?_
                  obtain ⟨o18, hF⟩ := hF
                  exact ih1 (drS (drS (u))) (k + 1) X15 Y16 hr8 o18 hF.1 (Nat.lt_of_lt_of_le hF.2 (Nat.le_of_lt_succ hmu1)) _ _ _ hH hS (lv_sub hl [1, 0, 3, 4, 5] rfl)
                · have hF := hF.2 c11
                  refine zd_iconst C dX2_draw_98 ?_
                  refine lv_goto (tgt := 103) C.1 C.2.1 dX2_draw_99 (by decide) ?_
                  refine zd_iconst C dX2_draw_103 ?_
                  refine lv_iload_n C.1 C.2.1 dX2_draw_104 rfl (lv_at hl 0 rfl) ?_
                  refine zd_bipush C (by decide) dX2_draw_105 ?_
                  refine zd_iushr C dX2_draw_107 ?_
                  refine zd_iconst C dX2_draw_108 ?_
                  refine lv_aload_n C.1 C.2.1 dX2_draw_109 rfl (lv_at hl 3 rfl) ?_
                  refine zg2_0 C hH (zCo_n hC) (zCo_k hC) q_448 (zCo_r0 hC) dX2_draw_110 ?_
                  refine zg1_2 C hH (zChart_n0 hC.1) (zChart_k0 hC.1) q_397 dX2_draw_113 ?_
                  refine zd_mmax C hl.1 q_1006 q_805 q_141 q_806 (Nat.le_of_ble_eq_true rfl) (Nat.le_of_ble_eq_true rfl) (Nat.zero_le _) (Nat.zero_le _) (by decide) (hH.2.2.1 _ _) dX2_draw_116 ?_
                  obtain ⟨o19, hF⟩ := hF
                  refine zd_irem C (zI_rg _) (mx_rI (by decide) (hH.2.2.1 _ _)) o19.1 o19.2 dX2_draw_119 ?_
                  refine zd_iadd C dX2_draw_120 ?_
                  obtain ⟨o20, hF⟩ := hF
                  obtain ⟨o21, hF⟩ := hF
                  refine zgoi (zrunV (As := [.int (zI (1)), .int (zI (1 + ((zUsh (drS (drS (u))) (16)).tmod (max (1) (X2 (i) 2)))))]) (rest := []) C hE hH hS hl.1 (c_X2_act (l := l) hC (1) (by decide) (1 + ((zUsh (drS (drS (u))) (16)).tmod (max (1) (X2 (i) 2)))) o20 o21) k_RX2_68 ⟨Nat.le_of_ble_eq_true rfl, Nat.le_of_ble_eq_true rfl⟩ (zCo_n hC) (zCo_k hC) rfl rfl rfl (Nat.le_of_ble_eq_true rfl) dX2_draw_121 ⟨Nat.zero_le _, Nat.zero_le _⟩) hS (fun rq X22 Y23 Rq H locs hrq hq hH hS => ?_)
                  obtain ⟨h9R, hq⟩ := hq
                  dsimp only at h9R
                  rw [h9R] at hH
                  obtain ⟨r24, h91, hq⟩ := hq
                  subst h91
                  have hF := hF r24 X22 hH.2.2.1 Y23 hH.2.2.2 hq
                  refine lv_pop C.1 C.2.1 dX2_draw_124 rfl ?_
                  refine zd_iinc (k := 2) (lv' := [(4, .int (zI (k + 1))), (3, .int (zI (drS (drS (u))))), (5, .int (zI ((zUsh (drS (u)) (16)).tmod (10)))), (0, .ref (bs + (i + 47))), (1, .int (zI (a))), (2, .int (zI (b)))]) C hl rfl dX2_draw_125 (by decide) rfl (fun ls hl => ?_)
                  refine lv_goto (tgt := 5) C.1 C.2.1 dX2_draw_128 (by decide) ?_
                  obtain ⟨o25, hF⟩ := hF
                  exact ih1 (drS (drS (u))) (k + 1) X22 Y23 hr8 o25 hF.1 (Nat.lt_of_lt_of_le hF.2 (Nat.le_of_lt_succ hmu1)) _ _ _ hH hS (lv_sub hl [1, 0, 3, 4, 5] rfl)
              · have hF := hF.2 c10
                refine zd_iconst C dX2_draw_87 ?_
                refine lv_goto (tgt := 103) C.1 C.2.1 dX2_draw_88 (by decide) ?_
                refine zd_iconst C dX2_draw_103 ?_
                refine lv_iload_n C.1 C.2.1 dX2_draw_104 rfl (lv_at hl 0 rfl) ?_
                refine zd_bipush C (by decide) dX2_draw_105 ?_
                refine zd_iushr C dX2_draw_107 ?_
                refine zd_iconst C dX2_draw_108 ?_
                refine lv_aload_n C.1 C.2.1 dX2_draw_109 rfl (lv_at hl 3 rfl) ?_
                refine zg2_0 C hH (zCo_n hC) (zCo_k hC) q_448 (zCo_r0 hC) dX2_draw_110 ?_
                refine zg1_2 C hH (zChart_n0 hC.1) (zChart_k0 hC.1) q_397 dX2_draw_113 ?_
                refine zd_mmax C hl.1 q_1006 q_805 q_141 q_806 (Nat.le_of_ble_eq_true rfl) (Nat.le_of_ble_eq_true rfl) (Nat.zero_le _) (Nat.zero_le _) (by decide) (hH.2.2.1 _ _) dX2_draw_116 ?_
                obtain ⟨o26, hF⟩ := hF
                refine zd_irem C (zI_rg _) (mx_rI (by decide) (hH.2.2.1 _ _)) o26.1 o26.2 dX2_draw_119 ?_
                refine zd_iadd C dX2_draw_120 ?_
                obtain ⟨o27, hF⟩ := hF
                obtain ⟨o28, hF⟩ := hF
                refine zgoi (zrunV (As := [.int (zI (0)), .int (zI (1 + ((zUsh (drS (drS (u))) (16)).tmod (max (1) (X2 (i) 2)))))]) (rest := []) C hE hH hS hl.1 (c_X2_act (l := l) hC (0) (by decide) (1 + ((zUsh (drS (drS (u))) (16)).tmod (max (1) (X2 (i) 2)))) o27 o28) k_RX2_68 ⟨Nat.le_of_ble_eq_true rfl, Nat.le_of_ble_eq_true rfl⟩ (zCo_n hC) (zCo_k hC) rfl rfl rfl (Nat.le_of_ble_eq_true rfl) dX2_draw_121 ⟨Nat.zero_le _, Nat.zero_le _⟩) hS (fun rq X29 Y30 Rq H locs hrq hq hH hS => ?_)
                obtain ⟨h9R, hq⟩ := hq
                dsimp only at h9R
                rw [h9R] at hH
                obtain ⟨r31, h91, hq⟩ := hq
                subst h91
                have hF := hF r31 X29 hH.2.2.1 Y30 hH.2.2.2 hq
                refine lv_pop C.1 C.2.1 dX2_draw_124 rfl ?_
                refine zd_iinc (k := 2) (lv' := [(4, .int (zI (k + 1))), (3, .int (zI (drS (drS (u))))), (5, .int (zI ((zUsh (drS (u)) (16)).tmod (10)))), (0, .ref (bs + (i + 47))), (1, .int (zI (a))), (2, .int (zI (b)))]) C hl rfl dX2_draw_125 (by decide) rfl (fun ls hl => ?_)
                refine lv_goto (tgt := 5) C.1 C.2.1 dX2_draw_128 (by decide) ?_
                obtain ⟨o32, hF⟩ := hF
                exact ih1 (drS (drS (u))) (k + 1) X29 Y30 hr8 o32 hF.1 (Nat.lt_of_lt_of_le hF.2 (Nat.le_of_lt_succ hmu1)) _ _ _ hH hS (lv_sub hl [1, 0, 3, 4, 5] rfl)
            · have hF := hF.2 c9
              refine lv_aload_n C.1 C.2.1 dX2_draw_65 rfl (lv_at hl 3 rfl) ?_
              refine zd_iconst C dX2_draw_66 ?_
              refine lv_iload_n C.1 C.2.1 dX2_draw_67 rfl (lv_at hl 0 rfl) ?_
              refine zd_bipush C (by decide) dX2_draw_68 ?_
              refine zd_iushr C dX2_draw_70 ?_
              refine zd_iconst C dX2_draw_71 ?_
              refine zd_irem C (zI_rg _) (by decide) (by decide) (by decide) dX2_draw_72 ?_
              obtain ⟨o33, hF⟩ := hF
              refine zgoi (zrunV (As := [.int (zI (3)), .int (zI ((zUsh (drS (drS (u))) (16)).tmod (2)))]) (rest := []) C hE hH hS hl.1 (c_X2_act (l := l) hC (3) (by decide) ((zUsh (drS (drS (u))) (16)).tmod (2)) (tmod_rI (zI_rg _) (show (2 : Int) ≠ -1 from (by decide))) o33) k_RX2_68 ⟨Nat.le_of_ble_eq_true rfl, Nat.le_of_ble_eq_true rfl⟩ (zCo_n hC) (zCo_k hC) rfl rfl rfl (Nat.le_of_ble_eq_true rfl) dX2_draw_73 ⟨Nat.zero_le _, Nat.zero_le _⟩) hS (fun rq X34 Y35 Rq H locs hrq hq hH hS => ?_)
              obtain ⟨h9R, hq⟩ := hq
              dsimp only at h9R
              rw [h9R] at hH
              obtain ⟨r36, h91, hq⟩ := hq
              subst h91
              have hF := hF r36 X34 hH.2.2.1 Y35 hH.2.2.2 hq
              refine lv_pop C.1 C.2.1 dX2_draw_76 rfl ?_
              refine lv_goto (tgt := 125) C.1 C.2.1 dX2_draw_77 (by decide) ?_
              refine zd_iinc (k := 2) (lv' := [(4, .int (zI (k + 1))), (3, .int (zI (drS (drS (u))))), (5, .int (zI ((zUsh (drS (u)) (16)).tmod (10)))), (0, .ref (bs + (i + 47))), (1, .int (zI (a))), (2, .int (zI (b)))]) C hl rfl dX2_draw_125 (by decide) rfl (fun ls hl => ?_)
              refine lv_goto (tgt := 5) C.1 C.2.1 dX2_draw_128 (by decide) ?_
              obtain ⟨o37, hF⟩ := hF
              exact ih1 (drS (drS (u))) (k + 1) X34 Y35 hr8 o37 hF.1 (Nat.lt_of_lt_of_le hF.2 (Nat.le_of_lt_succ hmu1)) _ _ _ hH hS (lv_sub hl [1, 0, 3, 4, 5] rfl)
          · have hF := hF.2 c7
            refine lv_aload_n C.1 C.2.1 dX2_draw_39 rfl (lv_at hl 3 rfl) ?_
            refine zg2_0 C hH (zCo_n hC) (zCo_k hC) q_448 (zCo_r0 hC) dX2_draw_40 ?_
            refine zg1_2 C hH (zChart_n0 hC.1) (zChart_k0 hC.1) q_397 dX2_draw_43 ?_
            refine zd_iconst C dX2_draw_46 ?_
            refine zd_icmp_ge C (hH.2.2.1 _ _) (by decide) 53 dX2_draw_47 (by decide) (fun c38 => ?_) (fun c38 => ?_)
            · have hF := hF.1 c38
              refine lv_iload_n C.1 C.2.1 dX2_draw_53 rfl (lv_at hl 1 rfl) ?_
              refine zgoi (zrunS (As := [.int (zI (drS (u)))]) (rest := []) C hE hH hS hl.1 (c_X2_stir (l := l)  (drS (u)) hr6) k_RX2_121 ⟨Nat.le_of_ble_eq_true rfl, Nat.le_of_ble_eq_true rfl⟩ rfl (Nat.le_of_ble_eq_true rfl) dX2_draw_54 ⟨Nat.zero_le _, Nat.zero_le _⟩) hS (fun rq Xq Yq Rq H locs hrq hq hH hS => ?_)
              obtain ⟨h91, h92⟩ := hq
              have h93 : Xq = X2 := congrArg (fun z => z.1) h92
              have h94 : Yq = Y3 := congrArg (fun z => z.2.1) h92
              have h95 : Rq = R := congrArg (fun z => z.2.2) h92
              rw [h93, h94, h95] at hH
              subst h91
              have hr39 := hrq
              have hF := hF hr39
              refine lv_istore_n (lv' := [(3, .int (zI (drS (drS (u))))), (5, .int (zI ((zUsh (drS (u)) (16)).tmod (10)))), (4, .int (zI (k))), (0, .ref (bs + (i + 47))), (1, .int (zI (a))), (2, .int (zI (b)))]) C.1 C.2.1 dX2_draw_57 rfl hl (by decide) rfl (fun ls hl => ?_)
              refine lv_iload C.1 C.2.1 dX2_draw_58 (lv_at hl 1 rfl) ?_
              refine zd_bipush C (by decide) dX2_draw_60 ?_
              refine zd_icmp_ne C (tmod_rI (zI_rg _) (show (10 : Int) ≠ -1 from (by decide))) (by decide) 80 dX2_draw_62 (by decide) (fun c40 => ?_) (fun c40 => ?_)
              · have hF := hF.1 c40
                refine lv_aload_n C.1 C.2.1 dX2_draw_80 rfl (lv_at hl 3 rfl) ?_
                refine lv_iload C.1 C.2.1 dX2_draw_81 (lv_at hl 1 rfl) ?_
                refine zd_iconst C dX2_draw_83 ?_
                refine zd_icmp_ge C (tmod_rI (zI_rg _) (show (10 : Int) ≠ -1 from (by decide))) (by decide) 91 dX2_draw_84 (by decide) (fun c41 => ?_) (fun c41 => ?_)
                · have hF := hF.1 c41
                  refine lv_iload C.1 C.2.1 dX2_draw_91 (lv_at hl 1 rfl) ?_
                  refine zd_bipush C (by decide) dX2_draw_93 ?_
                  refine zd_icmp_ge C (tmod_rI (zI_rg _) (show (10 : Int) ≠ -1 from (by decide))) (by decide) 102 dX2_draw_95 (by decide) (fun c42 => ?_) (fun c42 => ?_)
                  · have hF := hF.1 c42
                    refine zd_iconst C dX2_draw_102 ?_
                    refine zd_iconst C dX2_draw_103 ?_
                    refine lv_iload_n C.1 C.2.1 dX2_draw_104 rfl (lv_at hl 0 rfl) ?_
                    refine zd_bipush C (by decide) dX2_draw_105 ?_
                    refine zd_iushr C dX2_draw_107 ?_
                    refine zd_iconst C dX2_draw_108 ?_
                    refine lv_aload_n C.1 C.2.1 dX2_draw_109 rfl (lv_at hl 3 rfl) ?_
                    refine zg2_0 C hH (zCo_n hC) (zCo_k hC) q_448 (zCo_r0 hC) dX2_draw_110 ?_
                    refine zg1_2 C hH (zChart_n0 hC.1) (zChart_k0 hC.1) q_397 dX2_draw_113 ?_
                    refine zd_mmax C hl.1 q_1006 q_805 q_141 q_806 (Nat.le_of_ble_eq_true rfl) (Nat.le_of_ble_eq_true rfl) (Nat.zero_le _) (Nat.zero_le _) (by decide) (hH.2.2.1 _ _) dX2_draw_116 ?_
                    obtain ⟨o43, hF⟩ := hF
                    refine zd_irem C (zI_rg _) (mx_rI (by decide) (hH.2.2.1 _ _)) o43.1 o43.2 dX2_draw_119 ?_
                    refine zd_iadd C dX2_draw_120 ?_
                    obtain ⟨o44, hF⟩ := hF
                    obtain ⟨o45, hF⟩ := hF
                    refine zgoi (zrunV (As := [.int (zI (2)), .int (zI (1 + ((zUsh (drS (drS (u))) (16)).tmod (max (1) (X2 (i) 2)))))]) (rest := []) C hE hH hS hl.1 (c_X2_act (l := l) hC (2) (by decide) (1 + ((zUsh (drS (drS (u))) (16)).tmod (max (1) (X2 (i) 2)))) o44 o45) k_RX2_68 ⟨Nat.le_of_ble_eq_true rfl, Nat.le_of_ble_eq_true rfl⟩ (zCo_n hC) (zCo_k hC) rfl rfl rfl (Nat.le_of_ble_eq_true rfl) dX2_draw_121 ⟨Nat.zero_le _, Nat.zero_le _⟩) hS (fun rq X46 Y47 Rq H locs hrq hq hH hS => ?_)
                    obtain ⟨h9R, hq⟩ := hq
                    dsimp only at h9R
                    rw [h9R] at hH
                    obtain ⟨r48, h91, hq⟩ := hq
                    subst h91
                    have hF := hF r48 X46 hH.2.2.1 Y47 hH.2.2.2 hq
                    refine lv_pop C.1 C.2.1 dX2_draw_124 rfl ?_
                    refine zd_iinc (k := 2) (lv' := [(4, .int (zI (k + 1))), (3, .int (zI (drS (drS (u))))), (5, .int (zI ((zUsh (drS (u)) (16)).tmod (10)))), (0, .ref (bs + (i + 47))), (1, .int (zI (a))), (2, .int (zI (b)))]) C hl rfl dX2_draw_125 (by decide) rfl (fun ls hl => ?_)
                    refine lv_goto (tgt := 5) C.1 C.2.1 dX2_draw_128 (by decide) ?_
                    obtain ⟨o49, hF⟩ := hF
                    exact ih1 (drS (drS (u))) (k + 1) X46 Y47 hr39 o49 hF.1 (Nat.lt_of_lt_of_le hF.2 (Nat.le_of_lt_succ hmu1)) _ _ _ hH hS (lv_sub hl [1, 0, 3, 4, 5] rfl)
                  · have hF := hF.2 c42
                    refine zd_iconst C dX2_draw_98 ?_
                    refine lv_goto (tgt := 103) C.1 C.2.1 dX2_draw_99 (by decide) ?_
                    refine zd_iconst C dX2_draw_103 ?_
                    refine lv_iload_n C.1 C.2.1 dX2_draw_104 rfl (lv_at hl 0 rfl) ?_
                    refine zd_bipush C (by decide) dX2_draw_105 ?_
                    refine zd_iushr C dX2_draw_107 ?_
                    refine zd_iconst C dX2_draw_108 ?_
                    refine lv_aload_n C.1 C.2.1 dX2_draw_109 rfl (lv_at hl 3 rfl) ?_
                    refine zg2_0 C hH (zCo_n hC) (zCo_k hC) q_448 (zCo_r0 hC) dX2_draw_110 ?_
                    refine zg1_2 C hH (zChart_n0 hC.1) (zChart_k0 hC.1) q_397 dX2_draw_113 ?_
                    refine zd_mmax C hl.1 q_1006 q_805 q_141 q_806 (Nat.le_of_ble_eq_true rfl) (Nat.le_of_ble_eq_true rfl) (Nat.zero_le _) (Nat.zero_le _) (by decide) (hH.2.2.1 _ _) dX2_draw_116 ?_
                    obtain ⟨o50, hF⟩ := hF
                    refine zd_irem C (zI_rg _) (mx_rI (by decide) (hH.2.2.1 _ _)) o50.1 o50.2 dX2_draw_119 ?_
                    refine zd_iadd C dX2_draw_120 ?_
                    obtain ⟨o51, hF⟩ := hF
                    obtain ⟨o52, hF⟩ := hF
                    refine zgoi (zrunV (As := [.int (zI (1)), .int (zI (1 + ((zUsh (drS (drS (u))) (16)).tmod (max (1) (X2 (i) 2)))))]) (rest := []) C hE hH hS hl.1 (c_X2_act (l := l) hC (1) (by decide) (1 + ((zUsh (drS (drS (u))) (16)).tmod (max (1) (X2 (i) 2)))) o51 o52) k_RX2_68 ⟨Nat.le_of_ble_eq_true rfl, Nat.le_of_ble_eq_true rfl⟩ (zCo_n hC) (zCo_k hC) rfl rfl rfl (Nat.le_of_ble_eq_true rfl) dX2_draw_121 ⟨Nat.zero_le _, Nat.zero_le _⟩) hS (fun rq X53 Y54 Rq H locs hrq hq hH hS => ?_)
                    obtain ⟨h9R, hq⟩ := hq
                    dsimp only at h9R
                    rw [h9R] at hH
                    obtain ⟨r55, h91, hq⟩ := hq
                    subst h91
                    have hF := hF r55 X53 hH.2.2.1 Y54 hH.2.2.2 hq
                    refine lv_pop C.1 C.2.1 dX2_draw_124 rfl ?_
                    refine zd_iinc (k := 2) (lv' := [(4, .int (zI (k + 1))), (3, .int (zI (drS (drS (u))))), (5, .int (zI ((zUsh (drS (u)) (16)).tmod (10)))), (0, .ref (bs + (i + 47))), (1, .int (zI (a))), (2, .int (zI (b)))]) C hl rfl dX2_draw_125 (by decide) rfl (fun ls hl => ?_)
                    refine lv_goto (tgt := 5) C.1 C.2.1 dX2_draw_128 (by decide) ?_
                    obtain ⟨o56, hF⟩ := hF
                    exact ih1 (drS (drS (u))) (k + 1) X53 Y54 hr39 o56 hF.1 (Nat.lt_of_lt_of_le hF.2 (Nat.le_of_lt_succ hmu1)) _ _ _ hH hS (lv_sub hl [1, 0, 3, 4, 5] rfl)
                · have hF := hF.2 c41
                  refine zd_iconst C dX2_draw_87 ?_
                  refine lv_goto (tgt := 103) C.1 C.2.1 dX2_draw_88 (by decide) ?_
                  refine zd_iconst C dX2_draw_103 ?_
                  refine lv_iload_n C.1 C.2.1 dX2_draw_104 rfl (lv_at hl 0 rfl) ?_
                  refine zd_bipush C (by decide) dX2_draw_105 ?_
                  refine zd_iushr C dX2_draw_107 ?_
                  refine zd_iconst C dX2_draw_108 ?_
                  refine lv_aload_n C.1 C.2.1 dX2_draw_109 rfl (lv_at hl 3 rfl) ?_
                  refine zg2_0 C hH (zCo_n hC) (zCo_k hC) q_448 (zCo_r0 hC) dX2_draw_110 ?_
                  refine zg1_2 C hH (zChart_n0 hC.1) (zChart_k0 hC.1) q_397 dX2_draw_113 ?_
                  refine zd_mmax C hl.1 q_1006 q_805 q_141 q_806 (Nat.le_of_ble_eq_true rfl) (Nat.le_of_ble_eq_true rfl) (Nat.zero_le _) (Nat.zero_le _) (by decide) (hH.2.2.1 _ _) dX2_draw_116 ?_
                  obtain ⟨o57, hF⟩ := hF
                  refine zd_irem C (zI_rg _) (mx_rI (by decide) (hH.2.2.1 _ _)) o57.1 o57.2 dX2_draw_119 ?_
                  refine zd_iadd C dX2_draw_120 ?_
                  obtain ⟨o58, hF⟩ := hF
                  obtain ⟨o59, hF⟩ := hF
                  refine zgoi (zrunV (As := [.int (zI (0)), .int (zI (1 + ((zUsh (drS (drS (u))) (16)).tmod (max (1) (X2 (i) 2)))))]) (rest := []) C hE hH hS hl.1 (c_X2_act (l := l) hC (0) (by decide) (1 + ((zUsh (drS (drS (u))) (16)).tmod (max (1) (X2 (i) 2)))) o58 o59) k_RX2_68 ⟨Nat.le_of_ble_eq_true rfl, Nat.le_of_ble_eq_true rfl⟩ (zCo_n hC) (zCo_k hC) rfl rfl rfl (Nat.le_of_ble_eq_true rfl) dX2_draw_121 ⟨Nat.zero_le _, Nat.zero_le _⟩) hS (fun rq X60 Y61 Rq H locs hrq hq hH hS => ?_)
                  obtain ⟨h9R, hq⟩ := hq
                  dsimp only at h9R
                  rw [h9R] at hH
                  obtain ⟨r62, h91, hq⟩ := hq
                  subst h91
                  have hF := hF r62 X60 hH.2.2.1 Y61 hH.2.2.2 hq
                  refine lv_pop C.1 C.2.1 dX2_draw_124 rfl ?_
                  refine zd_iinc (k := 2) (lv' := [(4, .int (zI (k + 1))), (3, .int (zI (drS (drS (u))))), (5, .int (zI ((zUsh (drS (u)) (16)).tmod (10)))), (0, .ref (bs + (i + 47))), (1, .int (zI (a))), (2, .int (zI (b)))]) C hl rfl dX2_draw_125 (by decide) rfl (fun ls hl => ?_)
                  refine lv_goto (tgt := 5) C.1 C.2.1 dX2_draw_128 (by decide) ?_
                  obtain ⟨o63, hF⟩ := hF
                  exact ih1 (drS (drS (u))) (k + 1) X60 Y61 hr39 o63 hF.1 (Nat.lt_of_lt_of_le hF.2 (Nat.le_of_lt_succ hmu1)) _ _ _ hH hS (lv_sub hl [1, 0, 3, 4, 5] rfl)
              · have hF := hF.2 c40
                refine lv_aload_n C.1 C.2.1 dX2_draw_65 rfl (lv_at hl 3 rfl) ?_
                refine zd_iconst C dX2_draw_66 ?_
                refine lv_iload_n C.1 C.2.1 dX2_draw_67 rfl (lv_at hl 0 rfl) ?_
                refine zd_bipush C (by decide) dX2_draw_68 ?_
                refine zd_iushr C dX2_draw_70 ?_
                refine zd_iconst C dX2_draw_71 ?_
                refine zd_irem C (zI_rg _) (by decide) (by decide) (by decide) dX2_draw_72 ?_
                obtain ⟨o64, hF⟩ := hF
                refine zgoi (zrunV (As := [.int (zI (3)), .int (zI ((zUsh (drS (drS (u))) (16)).tmod (2)))]) (rest := []) C hE hH hS hl.1 (c_X2_act (l := l) hC (3) (by decide) ((zUsh (drS (drS (u))) (16)).tmod (2)) (tmod_rI (zI_rg _) (show (2 : Int) ≠ -1 from (by decide))) o64) k_RX2_68 ⟨Nat.le_of_ble_eq_true rfl, Nat.le_of_ble_eq_true rfl⟩ (zCo_n hC) (zCo_k hC) rfl rfl rfl (Nat.le_of_ble_eq_true rfl) dX2_draw_73 ⟨Nat.zero_le _, Nat.zero_le _⟩) hS (fun rq X65 Y66 Rq H locs hrq hq hH hS => ?_)
                obtain ⟨h9R, hq⟩ := hq
                dsimp only at h9R
                rw [h9R] at hH
                obtain ⟨r67, h91, hq⟩ := hq
                subst h91
                have hF := hF r67 X65 hH.2.2.1 Y66 hH.2.2.2 hq
                refine lv_pop C.1 C.2.1 dX2_draw_76 rfl ?_
                refine lv_goto (tgt := 125) C.1 C.2.1 dX2_draw_77 (by decide) ?_
                refine zd_iinc (k := 2) (lv' := [(4, .int (zI (k + 1))), (3, .int (zI (drS (drS (u))))), (5, .int (zI ((zUsh (drS (u)) (16)).tmod (10)))), (0, .ref (bs + (i + 47))), (1, .int (zI (a))), (2, .int (zI (b)))]) C hl rfl dX2_draw_125 (by decide) rfl (fun ls hl => ?_)
                refine lv_goto (tgt := 5) C.1 C.2.1 dX2_draw_128 (by decide) ?_
                obtain ⟨o68, hF⟩ := hF
                exact ih1 (drS (drS (u))) (k + 1) X65 Y66 hr39 o68 hF.1 (Nat.lt_of_lt_of_le hF.2 (Nat.le_of_lt_succ hmu1)) _ _ _ hH hS (lv_sub hl [1, 0, 3, 4, 5] rfl)
            · have hF := hF.2 c38
              refine lv_goto (tgt := 125) C.1 C.2.1 dX2_draw_50 (by decide) ?_
              refine zd_iinc (k := 2) (lv' := [(4, .int (zI (k + 1))), (5, .int (zI ((zUsh (drS (u)) (16)).tmod (10)))), (3, .int (zI (drS (u)))), (0, .ref (bs + (i + 47))), (1, .int (zI (a))), (2, .int (zI (b)))]) C hl rfl dX2_draw_125 (by decide) rfl (fun ls hl => ?_)
              refine lv_goto (tgt := 5) C.1 C.2.1 dX2_draw_128 (by decide) ?_
              obtain ⟨o69, hF⟩ := hF
              exact ih1 (drS (u)) (k + 1) X2 Y3 hr6 o69 hF.1 (Nat.lt_of_lt_of_le hF.2 (Nat.le_of_lt_succ hmu1)) _ _ _ hH hS (lv_sub hl [2, 0, 3, 4, 5] rfl)
  exact L1 (((100 - ((0 : Int))).toNat) + 1) (a) ((0 : Int)) X Y ha (by decide) hI1 (Nat.lt_succ_self _) _ _ _ hH hS (lv_sub hl [1, 0, 2, 3, 4] rfl)
theorem v_X2_draw {X Y : Nat → Int → Int} {R : Nat → Int → Option Nat} {i : Nat} {Z : Nat → Int → Int} {q : Nat} (a : Int) (ha : rI a) (b : Int) (hb : rI b) (hp : cA Z q X Y R i ∧ (X (i + 47) 9 = 0) ∧ ∃ t, coS Z q X i 1 t) : F_X2_draw i Z q X Y R a b := by
  unfold F_X2_draw
  intro hX hY
  obtain ⟨hq, h90, t0, ht0⟩ := hp
  obtain ⟨l27, r27, e27⟩ := cA_l hq
  refine ⟨?_, ?_⟩
  · exact ⟨0, rfl, by decide, Or.inl rfl, cfK.rf, by omega, fun t ht => ⟨rfl, ht⟩⟩
  intro u k X2 Y3
  intro _
  intro _
  intro rX2
  intro rY3
  intro h1
  obtain ⟨kn, rfl, k60, kb, hk, h9, hg⟩ := h1
  have hA := cA_f (fun z a b => hk.1 z b (by omega) (by omega)) hk.2.2 hq
  have f2 : X2 i 2 = X i 2 := by rw [hk.1 i (by omega) (by omega) (by omega)]
  have o47 := hk.2.1
  have d10 := drV_b (s := u) (n := 10) (by decide)
  have V1 : (zUsh (drS u) 16).tmod 10 = drV u 10 := rfl
  have V2 : ∀ n, (zUsh (drS (drS u)) 16).tmod n = drV (drS u) n := fun _ => rfl
  rw [V1]
  refine ⟨?_, ?_⟩
  · intro c1
    refine ⟨hk, fun t ht => ?_⟩
    rw [show (max 0 (min b 60)).toNat = kn by omega]
    exact coS_up (by omega) (hg t ht).2
  intro c2
  refine ⟨?_, ?_⟩
  · intro c3
    refine ⟨hk, fun t ht => ?_⟩
    rw [show (max 0 (min b 60)).toNat = kn by omega]
    exact coS_up (by omega) (hg t ht).2
  intro c4
  intro _
  refine ⟨?_, ?_⟩
  · intro c5
    intro _
    refine ⟨?_, ?_⟩
    · intro c6
      exfalso
      omega
    intro c11
    have c11 := Classical.not_not.mp c11
    have d2 := drV_b (s := drS u) (n := 2) (by decide)
    rw [V2 2]
    refine ⟨?_, ?_⟩
    · refine ⟨⟨hA, by omega⟩, ⟨by decide, fun _ => by omega⟩, _, _, ?_, (hg t0 ht0).2⟩
      omega
    intro r36
    intro X34
    intro rX34
    intro Y35
    intro rY35
    intro h5
    refine ⟨?_, ?_⟩
    · first | omega | exact ⟨by omega, by omega⟩ | decide | assumption | exact ⟨by omega, by omega, by omega⟩ | exact ⟨by decide, by decide⟩
    refine ⟨?_, ?_⟩
    · obtain ⟨r1, r2, r3⟩ := try_S h5
      refine ⟨kn + 1, by omega, by omega, by omega, hk.tr r1, by omega, fun t ht => ?_⟩
      obtain ⟨g1, g2⟩ := hg t ht
      have st : csDn (cx9 Z q (X (i + 47) 1)) (a, t) (kn + 1) = csDr (cx9 Z q (X (i + 47) 1)) (csDn (cx9 Z q (X (i + 47) 1)) (a, t) kn) := rfl
      rw [st]
      unfold csDr
      rw [← g1]
      rw [if_pos (show drV u 10 = 9 from c11)]
      rw [o47] at r3
      exact ⟨rfl, coS_up (by omega) (r3 _ _ g2)⟩
    first | omega | exact ⟨by omega, by omega⟩ | decide | assumption | exact ⟨by omega, by omega, by omega⟩ | exact ⟨by decide, by decide⟩
  intro c12
  refine ⟨?_, ?_⟩
  · intro c13
    rw [f2] at c13
    have dn := drV_b (s := drS u) (n := Z q 27 - 1) (by omega)
    rw [f2, show max 1 (X i 2) = Z q 27 - 1 by omega, V2 (Z q 27 - 1)]
    have xn : (xN (cx9 Z q (X (i + 47) 1)) : Int) = Z q 27 := e27
    intro _
    refine ⟨?_, ?_⟩
    · intro c14
      refine ⟨?_, ?_⟩
      · intro c15
        refine ⟨?_, ?_⟩
        · intro c16
          refine ⟨?_, ?_⟩
          · omega
          refine ⟨?_, ?_⟩
          · exact ⟨by omega, by omega⟩
          refine ⟨?_, ?_⟩
          · refine ⟨⟨hA, by omega⟩, ⟨by decide, fun g => absurd g (by decide)⟩, _, _, ?_, (hg t0 ht0).2⟩
            omega
          intro r48
          intro X46
          intro rX46
          intro Y47
          intro rY47
          intro h6
          refine ⟨?_, ?_⟩
          · first | omega | exact ⟨by omega, by omega⟩ | decide | assumption | exact ⟨by omega, by omega, by omega⟩ | exact ⟨by decide, by decide⟩
          refine ⟨?_, ?_⟩
          · obtain ⟨r1, r2, r3⟩ := try_S h6
            refine ⟨kn + 1, by omega, by omega, by omega, hk.tr r1, by omega, fun t ht => ?_⟩
            obtain ⟨g1, g2⟩ := hg t ht
            have st : csDn (cx9 Z q (X (i + 47) 1)) (a, t) (kn + 1) = csDr (cx9 Z q (X (i + 47) 1)) (csDn (cx9 Z q (X (i + 47) 1)) (a, t) kn) := rfl
            rw [st]
            unfold csDr
            rw [← g1]
            rw [if_neg (show ¬ drV u 10 = 9 from c14), if_neg (show ¬ (xN (cx9 Z q (X (i + 47) 1)) : Int) ≤ 1 by omega), if_neg (show ¬ drV u 10 < 4 from Int.not_lt.mpr c15), if_neg (show ¬ drV u 10 < 8 from Int.not_lt.mpr c16), xn]
            rw [o47] at r3
            exact ⟨rfl, coS_up (by omega) (r3 _ _ g2)⟩
          first | omega | exact ⟨by omega, by omega⟩ | decide | assumption | exact ⟨by omega, by omega, by omega⟩ | exact ⟨by decide, by decide⟩
        intro c17
        refine ⟨?_, ?_⟩
        · omega
        refine ⟨?_, ?_⟩
        · exact ⟨by omega, by omega⟩
        refine ⟨?_, ?_⟩
        · refine ⟨⟨hA, by omega⟩, ⟨by decide, fun g => absurd g (by decide)⟩, _, _, ?_, (hg t0 ht0).2⟩
          omega
        intro r55
        intro X53
        intro rX53
        intro Y54
        intro rY54
        intro h7
        refine ⟨?_, ?_⟩
        · first | omega | exact ⟨by omega, by omega⟩ | decide | assumption | exact ⟨by omega, by omega, by omega⟩ | exact ⟨by decide, by decide⟩
        refine ⟨?_, ?_⟩
        · obtain ⟨r1, r2, r3⟩ := try_S h7
          refine ⟨kn + 1, by omega, by omega, by omega, hk.tr r1, by omega, fun t ht => ?_⟩
          obtain ⟨g1, g2⟩ := hg t ht
          have st : csDn (cx9 Z q (X (i + 47) 1)) (a, t) (kn + 1) = csDr (cx9 Z q (X (i + 47) 1)) (csDn (cx9 Z q (X (i + 47) 1)) (a, t) kn) := rfl
          rw [st]
          unfold csDr
          rw [← g1]
          rw [if_neg (show ¬ drV u 10 = 9 from c14), if_neg (show ¬ (xN (cx9 Z q (X (i + 47) 1)) : Int) ≤ 1 by omega), if_neg (show ¬ drV u 10 < 4 from Int.not_lt.mpr c15), if_pos (show drV u 10 < 8 from Int.not_le.mp c17), xn]
          rw [o47] at r3
          exact ⟨rfl, coS_up (by omega) (r3 _ _ g2)⟩
        first | omega | exact ⟨by omega, by omega⟩ | decide | assumption | exact ⟨by omega, by omega, by omega⟩ | exact ⟨by decide, by decide⟩
      intro c18
      refine ⟨?_, ?_⟩
      · omega
      refine ⟨?_, ?_⟩
      · exact ⟨by omega, by omega⟩
      refine ⟨?_, ?_⟩
      · refine ⟨⟨hA, by omega⟩, ⟨by decide, fun g => absurd g (by decide)⟩, _, _, ?_, (hg t0 ht0).2⟩
        omega
      intro r62
      intro X60
      intro rX60
      intro Y61
      intro rY61
      intro h8
      refine ⟨?_, ?_⟩
      · first | omega | exact ⟨by omega, by omega⟩ | decide | assumption | exact ⟨by omega, by omega, by omega⟩ | exact ⟨by decide, by decide⟩
      refine ⟨?_, ?_⟩
      · obtain ⟨r1, r2, r3⟩ := try_S h8
        refine ⟨kn + 1, by omega, by omega, by omega, hk.tr r1, by omega, fun t ht => ?_⟩
        obtain ⟨g1, g2⟩ := hg t ht
        have st : csDn (cx9 Z q (X (i + 47) 1)) (a, t) (kn + 1) = csDr (cx9 Z q (X (i + 47) 1)) (csDn (cx9 Z q (X (i + 47) 1)) (a, t) kn) := rfl
        rw [st]
        unfold csDr
        rw [← g1]
        rw [if_neg (show ¬ drV u 10 = 9 from c14), if_neg (show ¬ (xN (cx9 Z q (X (i + 47) 1)) : Int) ≤ 1 by omega), if_pos (show drV u 10 < 4 from Int.not_le.mp c18), xn]
        rw [o47] at r3
        exact ⟨rfl, coS_up (by omega) (r3 _ _ g2)⟩
      first | omega | exact ⟨by omega, by omega⟩ | decide | assumption | exact ⟨by omega, by omega, by omega⟩ | exact ⟨by decide, by decide⟩
    intro c19
    exfalso
    omega
  intro c20
  rw [f2] at c20
  have xn : (xN (cx9 Z q (X (i + 47) 1)) : Int) = Z q 27 := e27
  refine ⟨?_, ?_⟩
  · first | omega | exact ⟨by omega, by omega⟩ | decide | assumption | exact ⟨by omega, by omega, by omega⟩ | exact ⟨by decide, by decide⟩
  refine ⟨?_, ?_⟩
  · refine ⟨kn + 1, by omega, by omega, by omega, hk, by omega, fun t ht => ?_⟩
    obtain ⟨g1, g2⟩ := hg t ht
    have st : csDn (cx9 Z q (X (i + 47) 1)) (a, t) (kn + 1) = csDr (cx9 Z q (X (i + 47) 1)) (csDn (cx9 Z q (X (i + 47) 1)) (a, t) kn) := rfl
    rw [st]
    unfold csDr
    rw [← g1, if_neg (show ¬ drV u 10 = 9 by omega), if_pos (show (xN (cx9 Z q (X (i + 47) 1)) : Int) ≤ 1 by omega)]
    exact ⟨rfl, coS_up (by omega) g2⟩
  first | omega | exact ⟨by omega, by omega⟩ | decide | assumption | exact ⟨by omega, by omega, by omega⟩ | exact ⟨by decide, by decide⟩
theorem c_X2_draw {l : Launch} {D : va_G} {cy : Nat → ClassId} {bs N : Nat} {sa : Nat → Nat} {kd len : Nat → Nat} {X Y : Nat → Int → Int} {R : Nat → Int → Option Nat} {i : Nat} {Z : Nat → Int → Int} {q : Nat} (hC : zCourse N kd len R i) (a : Int) (ha : rI a) (b : Int) (hb : rI b) (hp : cA Z q X Y R i ∧ (X (i + 47) 9 = 0) ∧ ∃ t, coS Z q X i 1 t) : Met l yX2_draw (.code yX2_draw cX2_draw 6 none :: zTB) (zRm 3 104) (zPc D cy bs sa N kd len X Y R [.ref (bs + (i + 47)), .int (zI (a)), .int (zI (b))]) (zQv D cy bs N kd len (fun st => st.2.2 = R ∧ (cfK X (st.1) Y (st.2.1) i ∧ ∀ t, coS Z q X i 1 t → coS Z q (st.1) i 1000 (csDn (cx9 Z q (X (i + 47) 1)) (a, t) (max 0 (min b 60)).toNat).2))) 0 0 (zA bs) := w_X2_draw hC a ha b hb (v_X2_draw a ha b hb hp)
