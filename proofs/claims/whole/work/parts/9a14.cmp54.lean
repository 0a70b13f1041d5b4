/-! A TEXT IS READ -/
/-- so far, line by line -/
def stF (T : Int → Int) (n : Nat) (a : Int) : Nat → rST
  | 0 => s0R a
  | k + 1 => match rdL T n a (stF T n a k) with
    | .inr s' => (tkN T n s'.1, s'.2)
    | .inl _ => stF T n a k
/-- what reading a text comes to -/
def roR (X1 : Nat → Int → Int) (i : Nat) (a : Int) : Int ⊕ rST → Prop
  | .inl pl => X1 i 3 = 1 ∧ X1 i 4 = pl
  | .inr s => X1 i 3 = s.2.2.1 ∧ X1 i 4 = (if s.2.2.1 = 0 then -1 else s.2.2.2) ∧ (s.2.2.1 = 0 → toldR X1 i a s.2.1)
theorem zRd1_put {N : Nat} {kd len : Nat → Nat} {R R1 : Nat → Int → Option Nat} {i j : Nat} (h : zRdr N kd len R i) (t : j < N ∧ kd j = 12 ∧ len j = 600) (e : R1 = zU R i 5 (some j)) : zRd1 N kd len R1 i j := by
  have o : ∀ z, z ≠ i → R1 z = R z := fun z hz => by rw [e, zU_o hz]
  have n : ∀ s : Int, s ≠ 5 → R1 i s = R i s := fun s hs => by rw [e, zU_n (by omega)]
  have r5 : R1 i 5 = some j := by rw [e, zU_s]
  obtain ⟨h1, h2, h3, h4, h5, h6, h7, h8, h9, h10⟩ := h
  refine ⟨⟨h1, h2, ⟨by rw [n 0 (by decide)]; exact h3.1, zNet_U h3.2 (o _ (by omega))⟩, ⟨by rw [n 1 (by decide)]; exact h4.1, ?_⟩, ⟨h5.1, h5.2.1, by rw [n 2 (by decide)]; exact h5.2.2⟩, ⟨h6.1, h6.2.1, by rw [n 11 (by decide)]; exact h6.2.2⟩, fun z z0 z1 => ⟨by rw [o (i + 9) (by omega)]; exact (h7 z z0 z1).1, zRows_U (h7 z z0 z1).2 (o _ (by omega))⟩, ?_⟩, by omega, h2, t.1, t.2.1, t.2.2, r5⟩
  · exact zBlocks_U h4.2 (o _ (by omega))
  · have e9 : tp9 R1 i = j := by
      unfold tp9
      rw [r5]
      rfl
    rw [e9]
    exact ⟨r5, t.1, t.2.1⟩
abbrev cX7_readAs : ByteArray := prog_9_method_2_code
def yX7_readAs : MethodName := ⟨RX7, "readAs", "(I[BI)V"⟩
theorem dX7_readAs_0 : decode cX7_readAs 0 = .ok (.aload_n 0, 1) := by decide +kernel
theorem dX7_readAs_1 : decode cX7_readAs 1 = .ok (.aload_n 2, 1) := by decide +kernel
theorem dX7_readAs_2 : decode cX7_readAs 2 = .ok (.putfield 31, 3) := by decide +kernel
theorem dX7_readAs_5 : decode cX7_readAs 5 = .ok (.aload_n 0, 1) := by decide +kernel
theorem dX7_readAs_6 : decode cX7_readAs 6 = .ok (.iload_n 3, 1) := by decide +kernel
theorem dX7_readAs_7 : decode cX7_readAs 7 = .ok (.aload_n 2, 1) := by decide +kernel
theorem dX7_readAs_8 : decode cX7_readAs 8 = .ok (.arraylength, 1) := by decide +kernel
theorem dX7_readAs_9 : decode cX7_readAs 9 = .ok (.invokestatic 42, 3) := by decide +kernel
theorem dX7_readAs_12 : decode cX7_readAs 12 = .ok (.putfield 48, 3) := by decide +kernel
theorem dX7_readAs_15 : decode cX7_readAs 15 = .ok (.aload_n 0, 1) := by decide +kernel
theorem dX7_readAs_16 : decode cX7_readAs 16 = .ok (.iconst 0, 1) := by decide +kernel
theorem dX7_readAs_17 : decode cX7_readAs 17 = .ok (.putfield 52, 3) := by decide +kernel
theorem dX7_readAs_20 : decode cX7_readAs 20 = .ok (.aload_n 0, 1) := by decide +kernel
theorem dX7_readAs_21 : decode cX7_readAs 21 = .ok (.iconst 0, 1) := by decide +kernel
theorem dX7_readAs_22 : decode cX7_readAs 22 = .ok (.putfield 55, 3) := by decide +kernel
theorem dX7_readAs_25 : decode cX7_readAs 25 = .ok (.aload_n 0, 1) := by decide +kernel
theorem dX7_readAs_26 : decode cX7_readAs 26 = .ok (.iconst (-1), 1) := by decide +kernel
theorem dX7_readAs_27 : decode cX7_readAs 27 = .ok (.putfield 58, 3) := by decide +kernel
theorem dX7_readAs_30 : decode cX7_readAs 30 = .ok (.aload_n 0, 1) := by decide +kernel
theorem dX7_readAs_31 : decode cX7_readAs 31 = .ok (.getfield 12, 3) := by decide +kernel
theorem dX7_readAs_34 : decode cX7_readAs 34 = .ok (.invokevirtual 61, 3) := by decide +kernel
theorem dX7_readAs_37 : decode cX7_readAs 37 = .ok (.aload_n 0, 1) := by decide +kernel
theorem dX7_readAs_38 : decode cX7_readAs 38 = .ok (.getfield 21, 3) := by decide +kernel
theorem dX7_readAs_41 : decode cX7_readAs 41 = .ok (.iconst 0, 1) := by decide +kernel
theorem dX7_readAs_42 : decode cX7_readAs 42 = .ok (.putfield 64, 3) := by decide +kernel
theorem dX7_readAs_45 : decode cX7_readAs 45 = .ok (.iconst 0, 1) := by decide +kernel
theorem dX7_readAs_46 : decode cX7_readAs 46 = .ok (.istore 4, 2) := by decide +kernel
theorem dX7_readAs_48 : decode cX7_readAs 48 = .ok (.iload 4, 2) := by decide +kernel
theorem dX7_readAs_50 : decode cX7_readAs 50 = .ok (.aload_n 0, 1) := by decide +kernel
theorem dX7_readAs_51 : decode cX7_readAs 51 = .ok (.getfield 27, 3) := by decide +kernel
theorem dX7_readAs_54 : decode cX7_readAs 54 = .ok (.arraylength, 1) := by decide +kernel
theorem dX7_readAs_55 : decode cX7_readAs 55 = .ok (.if_icmp .ge 20, 3) := by decide +kernel
theorem dX7_readAs_58 : decode cX7_readAs 58 = .ok (.aload_n 0, 1) := by decide +kernel
theorem dX7_readAs_59 : decode cX7_readAs 59 = .ok (.getfield 27, 3) := by decide +kernel
theorem dX7_readAs_62 : decode cX7_readAs 62 = .ok (.iload 4, 2) := by decide +kernel
theorem dX7_readAs_64 : decode cX7_readAs 64 = .ok (.aaload, 1) := by decide +kernel
theorem dX7_readAs_65 : decode cX7_readAs 65 = .ok (.iconst 0, 1) := by decide +kernel
theorem dX7_readAs_66 : decode cX7_readAs 66 = .ok (.putfield 67, 3) := by decide +kernel
theorem dX7_readAs_69 : decode cX7_readAs 69 = .ok (.iinc 4 1, 3) := by decide +kernel
theorem dX7_readAs_72 : decode cX7_readAs 72 = .ok (.goto (-24), 3) := by decide +kernel
theorem dX7_readAs_75 : decode cX7_readAs 75 = .ok (.aload_n 0, 1) := by decide +kernel
theorem dX7_readAs_76 : decode cX7_readAs 76 = .ok (.invokevirtual 70, 3) := by decide +kernel
theorem dX7_readAs_79 : decode cX7_readAs 79 = .ok (.iconst 0, 1) := by decide +kernel
theorem dX7_readAs_80 : decode cX7_readAs 80 = .ok (.istore 4, 2) := by decide +kernel
theorem dX7_readAs_82 : decode cX7_readAs 82 = .ok (.iload 4, 2) := by decide +kernel
theorem dX7_readAs_84 : decode cX7_readAs 84 = .ok (.sipush 600, 3) := by decide +kernel
theorem dX7_readAs_87 : decode cX7_readAs 87 = .ok (.if_icmp .gt 28, 3) := by decide +kernel
theorem dX7_readAs_90 : decode cX7_readAs 90 = .ok (.aload_n 0, 1) := by decide +kernel
theorem dX7_readAs_91 : decode cX7_readAs 91 = .ok (.getfield 73, 3) := by decide +kernel
theorem dX7_readAs_94 : decode cX7_readAs 94 = .ok (.iconst 3, 1) := by decide +kernel
theorem dX7_readAs_95 : decode cX7_readAs 95 = .ok (.if_icmp .eq 20, 3) := by decide +kernel
theorem dX7_readAs_98 : decode cX7_readAs 98 = .ok (.aload_n 0, 1) := by decide +kernel
theorem dX7_readAs_99 : decode cX7_readAs 99 = .ok (.iload_n 1, 1) := by decide +kernel
theorem dX7_readAs_100 : decode cX7_readAs 100 = .ok (.invokevirtual 76, 3) := by decide +kernel
theorem dX7_readAs_103 : decode cX7_readAs 103 = .ok (.ifCond .ne 6, 3) := by decide +kernel
theorem dX7_readAs_106 : decode cX7_readAs 106 = .ok (.goto 9, 3) := by decide +kernel
theorem dX7_readAs_109 : decode cX7_readAs 109 = .ok (.iinc 4 1, 3) := by decide +kernel
theorem dX7_readAs_112 : decode cX7_readAs 112 = .ok (.goto (-30), 3) := by decide +kernel
theorem dX7_readAs_115 : decode cX7_readAs 115 = .ok (.return_, 1) := by decide +kernel
theorem q_628 : Cond.methodLink RX7 61 yX6_clear ∈ zTB := zmem 628 (by decide +kernel) rfl
theorem q_174 : Cond.instanceMethod yX6_clear ∈ zTB := zmem 174 (by decide +kernel) rfl
theorem q_175 : Cond.selects RX6 yX6_clear yX6_clear ∈ zTB := zmem 175 (by decide +kernel) rfl
theorem q_176 : Cond.code yX6_clear cX6_clear 1 none ∈ zTB := zmem 176 (by decide +kernel) rfl
theorem k_RX7_61 : zLv RX7 61 RX6 yX6_clear cX6_clear 1 none 0 := ⟨⟨q_628, q_174, q_175, q_131, q_176⟩, rfl, ⟨by decide, by decide⟩, by decide +kernel⟩
theorem q_642 : Cond.methodLink RX7 76 yX7_readLine ∈ zTB := zmem 642 (by decide +kernel) rfl
theorem q_644 : Cond.instanceMethod yX7_readLine ∈ zTB := zmem 644 (by decide +kernel) rfl
theorem q_1 : Cond.selects RX7 yX7_readLine yX7_readLine ∈ zTB := zmem 1 (by decide +kernel) rfl
theorem q_645 : Cond.code yX7_readLine cX7_readLine 5 (some .boolean) ∈ zTB := zmem 645 (by decide +kernel) rfl
theorem k_RX7_76 : zLv RX7 76 RX7 yX7_readLine cX7_readLine 5 (some .boolean) 1 := ⟨⟨q_642, q_644, q_1, q_134, q_645⟩, rfl, ⟨by decide, by decide⟩, by decide +kernel⟩
def F_X7_readAs (i j : Nat) (X Y : Nat → Int → Int) (R : Nat → Int → Option Nat) (a : Int) (g : Int) : Prop := (∀ i j, rI (X i j)) → (∀ i j, rL (Y i j)) → ∀ R1 : Nat → Int → Option Nat, R1 = zU R (i) 5 (some (j)) → (∀ X2 : Nat → Int → Int, X2 = zU X (i) 6 (min (g) (600)) → (∀ i j, rI (X2 i j)) → (∀ X3 : Nat → Int → Int, X3 = zU X2 (i) 7 (0) → (∀ i j, rI (X3 i j)) → (∀ X4 : Nat → Int → Int, X4 = zU X3 (i) 3 (0) → (∀ i j, rI (X4 i j)) → (∀ X5 : Nat → Int → Int, X5 = zU X4 (i) 4 ((-1)) → (∀ i j, rI (X5 i j)) → (∀ X6 : Nat → Int → Int, (∀ i j, rI (X6 i j)) → ((X6) = zU (zU (zU (zU (zU (zU (zU X5 (i + 1) 0 2) (i + 1) 1 10) (i + 1) 2 10) (i + 1) 3 0) (i + 1) 4 0) (i + 1) 5 5) (i + 1) 6 0) → (∀ X7 : Nat → Int → Int, X7 = zU X6 (i + 3) 0 (0) → (∀ i j, rI (X7 i j)) → (∀ X9 : Nat → Int → Int, X9 = zU X7 (i + 12) 2 (0) → (∀ i j, rI (X9 i j)) → (∀ X11 : Nat → Int → Int, X11 = zU X9 (i + 14) 2 (0) → (∀ i j, rI (X11 i j)) → (∀ X13 : Nat → Int → Int, X13 = zU X11 (i + 16) 2 (0) → (∀ i j, rI (X13 i j)) → ((oRc X13 i j) ∧ (∀ X16 : Nat → Int → Int, (∀ i j, rI (X16 i j)) → (stC X13 (X16) i ∧ (X16) i 8 = tkB (X13 j) (X13 i 6).toNat (X13 i 7).toNat ∧ (X16) i 7 = tkN (X13 j) (X13 i 6).toNat (X13 i 7).toNat ∧ (X16) i 9 = cTk (tkS (X13 j) (X13 i 6).toNat (X13 i 7).toNat) ∧ (tkS (X13 j) (X13 i 6).toNat (X13 i 7).toNat = 3 → (X16) i 10 = tkV (X13 j) (X13 i 6).toNat (X13 i 7).toNat)) → (((∀ z, (z < i ∨ i + 17 < z) → X16 z = X z) ∧ (X16 i 6 = min g 600 ∧ oRc X16 i j) ∧ (rdV X16 i ∧ lnV X16 i) ∧ ∃ q : Nat, (0 : Int) = q ∧ crS X16 i j a (stF (X j) (min g 600).toNat a q) ∧ (X16 i 3 = 0 → X16 i 4 = -1) ∧ q ≤ (stF (X j) (min g 600).toNat a q).1 ∧ ∃ fu, rdA (X j) (min g 600).toNat a ((min g 600).toNat + 1) (s0R a) = rdA (X j) (min g 600).toNat a fu (stF (X j) (min g 600).toNat a q) ∧ (min g 600).toNat < fu + (stF (X j) (min g 600).toNat a q).1) ∧ (∀ (k : Int) (X18 : Nat → Int → Int), rI k → (∀ i j, rI (X18 i j)) → ((∀ z, (z < i ∨ i + 17 < z) → X18 z = X z) ∧ (X18 i 6 = min g 600 ∧ oRc X18 i j) ∧ (rdV X18 i ∧ lnV X18 i) ∧ ∃ q : Nat, k = q ∧ crS X18 i j a (stF (X j) (min g 600).toNat a q) ∧ (X18 i 3 = 0 → X18 i 4 = -1) ∧ q ≤ (stF (X j) (min g 600).toNat a q).1 ∧ ∃ fu, rdA (X j) (min g 600).toNat a ((min g 600).toNat + 1) (s0R a) = rdA (X j) (min g 600).toNat a fu (stF (X j) (min g 600).toNat a q) ∧ (min g 600).toNat < fu + (stF (X j) (min g 600).toNat a q).1) → (((600 < k) → ((R1) = zU R i 5 (some j) ∧ (∀ z, (z < i ∨ i + 17 < z) → (X18) z = X z) ∧ rdV (X18) i ∧ lnV (X18) i ∧ roR (X18) i (a) (rdA (X j) (g).toNat (a) ((g).toNat + 1) (s0R (a))))) ∧ ((¬ (600 < k)) → ((((X18 (i) 9) = 3) → ((R1) = zU R i 5 (some j) ∧ (∀ z, (z < i ∨ i + 17 < z) → (X18) z = X z) ∧ rdV (X18) i ∧ lnV (X18) i ∧ roR (X18) i (a) (rdA (X j) (g).toNat (a) ((g).toNat + 1) (s0R (a))))) ∧ ((¬ ((X18 (i) 9) = 3)) → (((0 ≤ (a) ∧ (a) ≤ 4) ∧ (oRc X18 i j ∧ (j < i ∨ i + 17 < j)) ∧ (rdV X18 i ∧ lnV X18 i) ∧ crS X18 i j ((a)) (stF (X j) (min g 600).toNat a k.toNat) ∧ tkS (X18 j) (X18 i 6).toNat (stF (X j) (min g 600).toNat a k.toNat).1 ≠ 0) ∧ (∀ r23 : Bool, ∀ X22 : Nat → Int → Int, (∀ i j, rI (X22 i j)) → (rcK X18 (X22) i ∧ rdV (X22) i ∧ lnV (X22) i ∧ (r23 = true → oRc (X22) i j ∧ ((X22) i 3 = 0 → (X22) i 4 = X18 i 4 ∧ X18 i 3 = 0)) ∧ rlP (X22) i j (a) (X18 j) (X18 i 6).toNat r23 (rdL (X18 j) (X18 i 6).toNat (a) (stF (X j) (min g 600).toNat a k.toNat))) → (((r23 = true) → ((rI (k + 1)) ∧ ((∀ z, (z < i ∨ i + 17 < z) → X22 z = X z) ∧ (X22 i 6 = min g 600 ∧ oRc X22 i j) ∧ (rdV X22 i ∧ lnV X22 i) ∧ ∃ q : Nat, (k + 1) = q ∧ crS X22 i j a (stF (X j) (min g 600).toNat a q) ∧ (X22 i 3 = 0 → X22 i 4 = -1) ∧ q ≤ (stF (X j) (min g 600).toNat a q).1 ∧ ∃ fu, rdA (X j) (min g 600).toNat a ((min g 600).toNat + 1) (s0R a) = rdA (X j) (min g 600).toNat a fu (stF (X j) (min g 600).toNat a q) ∧ (min g 600).toNat < fu + (stF (X j) (min g 600).toNat a q).1) ∧ (((700 - (k + 1)).toNat) < ((700 - k).toNat)))) ∧ ((r23 = false) → ((R1) = zU R i 5 (some j) ∧ (∀ z, (z < i ∨ i + 17 < z) → (X22) z = X z) ∧ rdV (X22) i ∧ lnV (X22) i ∧ roR (X22) i (a) (rdA (X j) (g).toNat (a) ((g).toNat + 1) (s0R (a)))))))))))))))))))))))))
set_option maxHeartbeats 4000000 in
set_option maxRecDepth 100000 in
theorem w_X7_readAs {l : Launch} {D : va_G} {cy : Nat → ClassId} {bs N : Nat} {sa : Nat → Nat} {kd len : Nat → Nat} {X Y : Nat → Int → Int} {R : Nat → Int → Option Nat} {i j : Nat} (hC : zRdr N kd len R i ∧ True) (hT : j < N ∧ kd j = 12 ∧ len j = 600) (a : Int) (ha : rI a) (g : Int) (hg : rI g) (hF : F_X7_readAs i j X Y R a g) : Met l yX7_readAs (.code yX7_readAs cX7_readAs 5 none :: zTB) (zRm 7 153) (zPc D cy bs sa N kd len X Y R [.ref (bs + (i)), .int (zI (a)), .ref (bs + (j)), .int (zI (g))]) (zQv D cy bs N kd len (fun st => st.2.1 = Y ∧ ((st.2.2) = zU R i 5 (some j) ∧ (∀ z, (z < i ∨ i + 17 < z) → (st.1) z = X z) ∧ rdV (st.1) i ∧ lnV (st.1) i ∧ roR (st.1) i (a) (rdA (X j) (g).toNat (a) ((g).toNat + 1) (s0R (a)))))) 0 0 (zA bs) := by
  refine zstart (by decide) (Nat.le_of_ble_eq_true rfl) ?_
  intro p e s m args below meth c ls C hE hH hr hlk hnm hl hargs
  have hF := hF hH.2.2.1 hH.2.2.2
  have hS : va_S (zA bs) s.heap s.heap [] := va_S.rf
  have hl : lv_has ls 5 [(0, .ref (bs + (i))), (1, .int (zI (a))), (2, .ref (bs + (j))), (3, .int (zI (g)))] := hl
  refine lv_aload_n C.1 C.2.1 dX7_readAs_0 rfl (lv_at hl 0 rfl) ?_
  refine lv_aload_n C.1 C.2.1 dX7_readAs_1 rfl (lv_at hl 2 rfl) ?_
  refine zp7_5 C hH hS (zRr_n0 hC.1) (zRr_k0 hC.1) q_332 dX7_readAs_2 (fun H locs hH hS => ?_)
  obtain ⟨R1, eR1⟩ : ∃ z, z = zU R (i) 5 (some (j)) := ⟨_, rfl⟩
  replace hH : zH D cy bs N kd len X Y (zU R (i) 5 (some (j))) H := hH
  rw [← eR1] at hH
  have hF := hF R1 eR1
  have hC := zRd1_put hC.1 hT eR1
  refine lv_aload_n C.1 C.2.1 dX7_readAs_5 rfl (lv_at hl 0 rfl) ?_
  refine lv_iload_n C.1 C.2.1 dX7_readAs_6 rfl (lv_at hl 3 rfl) ?_
  refine lv_aload_n C.1 C.2.1 dX7_readAs_7 rfl (lv_at hl 2 rfl) ?_
  refine zd_alen C hH hT.1 (t0 := 0) (by rw [hT.2.1]; rfl) rfl rfl dX7_readAs_8 ?_
  rw [hT.2.2]
  rw [show ((600 : Nat) : Int) = 600 from rfl]
  refine zd_mmin C hl.1 q_625 q_626 q_141 q_627 (Nat.le_of_ble_eq_true rfl) (Nat.le_of_ble_eq_true rfl) (Nat.zero_le _) (Nat.zero_le _) hg (by decide) dX7_readAs_9 ?_
  refine zp7_6 C hH hS (zRr_n0 hC.1) (zRr_k0 hC.1) q_333 (mn_rI hg (by decide)) dX7_readAs_12 (fun H locs hH hS => ?_)
  obtain ⟨X2, eX2⟩ : ∃ z, z = zU X (i) 6 (min (g) (600)) := ⟨_, rfl⟩
  replace hH : zH D cy bs N kd len (zU X (i) 6 (min (g) (600))) Y R1 H := hH
  rw [← eX2] at hH
  have hF := hF X2 eX2 hH.2.2.1
  refine lv_aload_n C.1 C.2.1 dX7_readAs_15 rfl (lv_at hl 0 rfl) ?_
  refine zd_iconst C dX7_readAs_16 ?_
  refine zp7_7 C hH hS (zRr_n0 hC.1) (zRr_k0 hC.1) q_334 (by decide) dX7_readAs_17 (fun H locs hH hS => ?_)
  obtain ⟨X3, eX3⟩ : ∃ z, z = zU X2 (i) 7 (0) := ⟨_, rfl⟩
  replace hH : zH D cy bs N kd len (zU X2 (i) 7 (0)) Y R1 H := hH
  rw [← eX3] at hH
  have hF := hF X3 eX3 hH.2.2.1
  refine lv_aload_n C.1 C.2.1 dX7_readAs_20 rfl (lv_at hl 0 rfl) ?_
  refine zd_iconst C dX7_readAs_21 ?_
  refine zp7_3 C hH hS (zRr_n0 hC.1) (zRr_k0 hC.1) q_328 (by decide) dX7_readAs_22 (fun H locs hH hS => ?_)
  obtain ⟨X4, eX4⟩ : ∃ z, z = zU X3 (i) 3 (0) := ⟨_, rfl⟩
  replace hH : zH D cy bs N kd len (zU X3 (i) 3 (0)) Y R1 H := hH
  rw [← eX4] at hH
  have hF := hF X4 eX4 hH.2.2.1
  refine lv_aload_n C.1 C.2.1 dX7_readAs_25 rfl (lv_at hl 0 rfl) ?_
  refine zd_iconst C dX7_readAs_26 ?_
  refine zp7_4 C hH hS (zRr_n0 hC.1) (zRr_k0 hC.1) q_330 (by decide) dX7_readAs_27 (fun H locs hH hS => ?_)
  obtain ⟨X5, eX5⟩ : ∃ z, z = zU X4 (i) 4 ((-1)) := ⟨_, rfl⟩
  replace hH : zH D cy bs N kd len (zU X4 (i) 4 ((-1))) Y R1 H := hH
  rw [← eX5] at hH
  have hF := hF X5 eX5 hH.2.2.1
  refine lv_aload_n C.1 C.2.1 dX7_readAs_30 rfl (lv_at hl 0 rfl) ?_
  refine zg7_0 C hH (zRr_n0 hC.1) (zRr_k0 hC.1) q_322 (zRr_nt hC.1).1 dX7_readAs_31 ?_
  refine zgov (zrunV (As := []) (rest := []) C hE hH hS hl.1 (c_X6_clear (l := l) (zRr_nt hC.1).2 ) k_RX7_61 ⟨Nat.le_of_ble_eq_true rfl, Nat.le_of_ble_eq_true rfl⟩ (zNet_n0 (zRr_nt hC.1).2) (zNet_k0 (zRr_nt hC.1).2) rfl rfl rfl (Nat.le_of_ble_eq_true rfl) dX7_readAs_34 ⟨Nat.zero_le _, Nat.zero_le _⟩) hS (fun X6 Yq Rq H locs hq hH hS => ?_)
  obtain ⟨h9Y, h9R, hq⟩ := hq
  dsimp only at h9Y h9R
  rw [h9Y, h9R] at hH
  have hF := hF X6 hH.2.2.1 hq
  refine lv_aload_n C.1 C.2.1 dX7_readAs_37 rfl (lv_at hl 0 rfl) ?_
  refine zg7_1 C hH (zRr_n0 hC.1) (zRr_k0 hC.1) q_324 (zRr_bl hC.1).1 dX7_readAs_38 ?_
  refine zd_iconst C dX7_readAs_41 ?_
  refine zp0_0 C hH hS (zBlocks_n0 (zRr_bl hC.1).2) (zBlocks_k0 (zRr_bl hC.1).2) q_226 (by decide) dX7_readAs_42 (fun H locs hH hS => ?_)
  obtain ⟨X7, eX7⟩ : ∃ z, z = zU X6 (i + 3) 0 (0) := ⟨_, rfl⟩
  replace hH : zH D cy bs N kd len (zU X6 (i + 3) 0 (0)) Y R1 H := hH
  rw [← eX7] at hH
  have hF := hF X7 eX7 hH.2.2.1
  refine zd_iconst C dX7_readAs_45 ?_
  refine lv_istore (lv' := [(4, .int (zI (0))), (0, .ref (bs + (i))), (1, .int (zI (a))), (2, .ref (bs + (j))), (3, .int (zI (g)))]) C.1 C.2.1 dX7_readAs_46 hl (by decide) rfl (fun ls hl => ?_)
  refine lv_iload C.1 C.2.1 dX7_readAs_48 (lv_at hl 0 rfl) ?_
  refine lv_aload_n C.1 C.2.1 dX7_readAs_50 rfl (lv_at hl 1 rfl) ?_
  refine zg7_2 C hH (zRr_n0 hC.1) (zRr_k0 hC.1) q_326 (zRr_9 hC.1).2.2 dX7_readAs_51 ?_
  refine zd_alen C hH (zRr_n9 hC.1) (t0 := 7) (by rw [(zRr_9 hC.1).1]; rfl) rfl rfl dX7_readAs_54 ?_
  rw [zRr_l9 hC.1]
  rw [show ((3 : Nat) : Int) = 3 from rfl]
  refine zd_icmp_ge C (by decide) (by decide) 75 dX7_readAs_55 (by decide) (fun c8 => ?_) (fun c8 => ?_)
  · exact absurd c8 (by decide)
  · refine lv_aload_n C.1 C.2.1 dX7_readAs_58 rfl (lv_at hl 1 rfl) ?_
    refine zg7_2 C hH (zRr_n0 hC.1) (zRr_k0 hC.1) q_326 (zRr_9 hC.1).2.2 dX7_readAs_59 ?_
    refine lv_iload C.1 C.2.1 dX7_readAs_62 (lv_at hl 0 rfl) ?_
    refine zd_aaldr C hH (zRr_n9 hC.1) 7 rfl rfl (by rw [(zRr_9 hC.1).1]; rfl) (by decide) (by rw [zRr_l9 hC.1]; decide) (by rw [zRr_l9 hC.1]; decide) (zRr_z (z := 0) hC.1 (by decide) (by decide)).1.1 dX7_readAs_64 ?_
    refine zd_iconst C dX7_readAs_65 ?_
    refine zp8_2 C hH hS (zRows_n0 (zRr_z (z := 0) hC.1 (by decide) (by decide)).1.2) (zRows_k0 (zRr_z (z := 0) hC.1 (by decide) (by decide)).1.2) q_264 (by decide) dX7_readAs_66 (fun H locs hH hS => ?_)
    obtain ⟨X9, eX9⟩ : ∃ z, z = zU X7 (i + 12) 2 (0) := ⟨_, rfl⟩
    replace hH : zH D cy bs N kd len (zU X7 (i + 12) 2 (0)) Y R1 H := hH
    rw [← eX9] at hH
    have hF := hF X9 eX9 hH.2.2.1
    refine zd_iinc (k := 0) (lv' := [(4, .int (zI (1))), (0, .ref (bs + (i))), (1, .int (zI (a))), (2, .ref (bs + (j))), (3, .int (zI (g)))]) C hl rfl dX7_readAs_69 (by decide) rfl (fun ls hl => ?_)
    refine lv_goto (tgt := 48) C.1 C.2.1 dX7_readAs_72 (by decide) ?_
    refine lv_iload C.1 C.2.1 dX7_readAs_48 (lv_at hl 0 rfl) ?_
    refine lv_aload_n C.1 C.2.1 dX7_readAs_50 rfl (lv_at hl 1 rfl) ?_
    refine zg7_2 C hH (zRr_n0 hC.1) (zRr_k0 hC.1) q_326 (zRr_9 hC.1).2.2 dX7_readAs_51 ?_
    refine zd_alen C hH (zRr_n9 hC.1) (t0 := 7) (by rw [(zRr_9 hC.1).1]; rfl) rfl rfl dX7_readAs_54 ?_
    rw [zRr_l9 hC.1]
    rw [show ((3 : Nat) : Int) = 3 from rfl]
    refine zd_icmp_ge C (by decide) (by decide) 75 dX7_readAs_55 (by decide) (fun c10 => ?_) (fun c10 => ?_)
    · exact absurd c10 (by decide)
    · refine lv_aload_n C.1 C.2.1 dX7_readAs_58 rfl (lv_at hl 1 rfl) ?_
      refine zg7_2 C hH (zRr_n0 hC.1) (zRr_k0 hC.1) q_326 (zRr_9 hC.1).2.2 dX7_readAs_59 ?_
      refine lv_iload C.1 C.2.1 dX7_readAs_62 (lv_at hl 0 rfl) ?_
      refine zd_aaldr C hH (zRr_n9 hC.1) 7 rfl rfl (by rw [(zRr_9 hC.1).1]; rfl) (by decide) (by rw [zRr_l9 hC.1]; decide) (by rw [zRr_l9 hC.1]; decide) (zRr_z (z := 1) hC.1 (by decide) (by decide)).1.1 dX7_readAs_64 ?_
      refine zd_iconst C dX7_readAs_65 ?_
      refine zp8_2 C hH hS (zRows_n0 (zRr_z (z := 1) hC.1 (by decide) (by decide)).1.2) (zRows_k0 (zRr_z (z := 1) hC.1 (by decide) (by decide)).1.2) q_264 (by decide) dX7_readAs_66 (fun H locs hH hS => ?_)
      obtain ⟨X11, eX11⟩ : ∃ z, z = zU X9 (i + 14) 2 (0) := ⟨_, rfl⟩
      replace hH : zH D cy bs N kd len (zU X9 (i + 14) 2 (0)) Y R1 H := hH
      rw [← eX11] at hH
      have hF := hF X11 eX11 hH.2.2.1
      refine zd_iinc (k := 0) (lv' := [(4, .int (zI (2))), (0, .ref (bs + (i))), (1, .int (zI (a))), (2, .ref (bs + (j))), (3, .int (zI (g)))]) C hl rfl dX7_readAs_69 (by decide) rfl (fun ls hl => ?_)
      refine lv_goto (tgt := 48) C.1 C.2.1 dX7_readAs_72 (by decide) ?_
      refine lv_iload C.1 C.2.1 dX7_readAs_48 (lv_at hl 0 rfl) ?_
      refine lv_aload_n C.1 C.2.1 dX7_readAs_50 rfl (lv_at hl 1 rfl) ?_
      refine zg7_2 C hH (zRr_n0 hC.1) (zRr_k0 hC.1) q_326 (zRr_9 hC.1).2.2 dX7_readAs_51 ?_
      refine zd_alen C hH (zRr_n9 hC.1) (t0 := 7) (by rw [(zRr_9 hC.1).1]; rfl) rfl rfl dX7_readAs_54 ?_
      rw [zRr_l9 hC.1]
      rw [show ((3 : Nat) : Int) = 3 from rfl]
      refine zd_icmp_ge C (by decide) (by decide) 75 dX7_readAs_55 (by decide) (fun c12 => ?_) (fun c12 => ?_)
      · exact absurd c12 (by decide)
      · refine lv_aload_n C.1 C.2.1 dX7_readAs_58 rfl (lv_at hl 1 rfl) ?_
        refine zg7_2 C hH (zRr_n0 hC.1) (zRr_k0 hC.1) q_326 (zRr_9 hC.1).2.2 dX7_readAs_59 ?_
        refine lv_iload C.1 C.2.1 dX7_readAs_62 (lv_at hl 0 rfl) ?_
        refine zd_aaldr C hH (zRr_n9 hC.1) 7 rfl rfl (by rw [(zRr_9 hC.1).1]; rfl) (by decide) (by rw [zRr_l9 hC.1]; decide) (by rw [zRr_l9 hC.1]; decide) (zRr_z (z := 2) hC.1 (by decide) (by decide)).1.1 dX7_readAs_64 ?_
        refine zd_iconst C dX7_readAs_65 ?_
        refine zp8_2 C hH hS (zRows_n0 (zRr_z (z := 2) hC.1 (by decide) (by decide)).1.2) (zRows_k0 (zRr_z (z := 2) hC.1 (by decide) (by decide)).1.2) q_264 (by decide) dX7_readAs_66 (fun H locs hH hS => ?_)
        obtain ⟨X13, eX13⟩ : ∃ z, z = zU X11 (i + 16) 2 (0) := ⟨_, rfl⟩
        replace hH : zH D cy bs N kd len (zU X11 (i + 16) 2 (0)) Y R1 H := hH
        rw [← eX13] at hH
        have hF := hF X13 eX13 hH.2.2.1
        refine zd_iinc (k := 0) (lv' := [(4, .int (zI (3))), (0, .ref (bs + (i))), (1, .int (zI (a))), (2, .ref (bs + (j))), (3, .int (zI (g)))]) C hl rfl dX7_readAs_69 (by decide) rfl (fun ls hl => ?_)
        refine lv_goto (tgt := 48) C.1 C.2.1 dX7_readAs_72 (by decide) ?_
        refine lv_iload C.1 C.2.1 dX7_readAs_48 (lv_at hl 0 rfl) ?_
        refine lv_aload_n C.1 C.2.1 dX7_readAs_50 rfl (lv_at hl 1 rfl) ?_
        refine zg7_2 C hH (zRr_n0 hC.1) (zRr_k0 hC.1) q_326 (zRr_9 hC.1).2.2 dX7_readAs_51 ?_
        refine zd_alen C hH (zRr_n9 hC.1) (t0 := 7) (by rw [(zRr_9 hC.1).1]; rfl) rfl rfl dX7_readAs_54 ?_
        rw [zRr_l9 hC.1]
        rw [show ((3 : Nat) : Int) = 3 from rfl]
        refine zd_icmp_ge C (by decide) (by decide) 75 dX7_readAs_55 (by decide) (fun c14 => ?_) (fun c14 => ?_)
        · refine lv_aload_n C.1 C.2.1 dX7_readAs_75 rfl (lv_at hl 1 rfl) ?_
          obtain ⟨o15, hF⟩ := hF
          refine zgov (zrunV (As := []) (rest := []) C hE hH hS hl.1 (c_X7_step (l := l) hC.2  o15) k_RX7_70 ⟨Nat.le_of_ble_eq_true rfl, Nat.le_of_ble_eq_true rfl⟩ (zRr_n0 hC.1) (zRr_k0 hC.1) rfl rfl rfl (Nat.le_of_ble_eq_true rfl) dX7_readAs_76 ⟨Nat.zero_le _, Nat.zero_le _⟩) hS (fun X16 Yq Rq H locs hq hH hS => ?_)
          obtain ⟨h9Y, h9R, hq⟩ := hq
          dsimp only at h9Y h9R
          rw [h9Y, h9R] at hH
          have hF := hF X16 hH.2.2.1 hq
          refine zd_iconst C dX7_readAs_79 ?_
          refine lv_istore (lv' := [(4, .int (zI (0))), (0, .ref (bs + (i))), (1, .int (zI (a))), (2, .ref (bs + (j))), (3, .int (zI (g)))]) C.1 C.2.1 dX7_readAs_80 hl (by decide) rfl (fun ls hl => ?_)
          obtain ⟨hI17, hF⟩ := hF
          have L17 : ∀ (fu : Nat) (k : Int) (X18 : Nat → Int → Int), rI k → ((∀ z, (z < i ∨ i + 17 < z) → X18 z = X z) ∧ (X18 i 6 = min g 600 ∧ oRc X18 i j) ∧ (rdV X18 i ∧ lnV X18 i) ∧ ∃ q : Nat, k = q ∧ crS X18 i j a (stF (X j) (min g 600).toNat a q) ∧ (X18 i 3 = 0 → X18 i 4 = -1) ∧ q ≤ (stF (X j) (min g 600).toNat a q).1 ∧ ∃ fu, rdA (X j) (min g 600).toNat a ((min g 600).toNat + 1) (s0R a) = rdA (X j) (min g 600).toNat a fu (stF (X j) (min g 600).toNat a q) ∧ (min g 600).toNat < fu + (stF (X j) (min g 600).toNat a q).1) → ((700 - k).toNat) < fu → ∀ (H : Heap) (locs : List Loc) (ls : Array Slot), zH D cy bs N kd len X18 Y R1 H → va_S (zA bs) s.heap H locs → lv_has ls 5 [(4, .int (zI (k))), (0, .ref (bs + (i))), (1, .int (zI (a))), (2, .ref (bs + (j))), (3, .int (zI (g)))] → W p l e (zRm 7 153) s m args below meth c H locs 0 0 (MQ below (zQv D cy bs N kd len (fun st => st.2.1 = Y ∧ ((st.2.2) = zU R i 5 (some j) ∧ (∀ z, (z < i ∨ i + 17 < z) → (st.1) z = X z) ∧ rdV (st.1) i ∧ lnV (st.1) i ∧ roR (st.1) i (a) (rdA (X j) (g).toNat (a) ((g).toNat + 1) (s0R (a)))))) args s 0 0 (zA bs)) (F0 m 82 ls []) := by
            intro fu
            induction fu with
            | zero => intro k X18 _ _ hmu; exact absurd hmu (Nat.not_lt_zero _)
            | succ fu ih17 =>
              intro k X18 hk hI hmu17 H locs ls hH hS hl
              have hF := hF k X18 hk hH.2.2.1 hI
              refine lv_iload C.1 C.2.1 dX7_readAs_82 (lv_at hl 0 rfl) ?_
              refine zd_sipush C (by decide) dX7_readAs_84 ?_
              refine zd_icmp_gt C hk (by decide) 115 dX7_readAs_87 (by decide) (fun c19 => ?_) (fun c19 => ?_)
              · have hF := hF.1 c19
                exact zd_vret C hr hlk hH hS (⟨rfl, hF⟩) dX7_readAs_115
              · have hF := hF.2 c19
                refine lv_aload_n C.1 C.2.1 dX7_readAs_90 rfl (lv_at hl 1 rfl) ?_
                refine zg7_9 C hH (zRr_n0 hC.1) (zRr_k0 hC.1) q_336 dX7_readAs_91 ?_
                refine zd_iconst C dX7_readAs_94 ?_
                refine zd_icmp_eq C (hH.2.2.1 _ _) (by decide) 115 dX7_readAs_95 (by decide) (fun c20 => ?_) (fun c20 => ?_)
                · have hF := hF.1 c20
                  exact zd_vret C hr hlk hH hS (⟨rfl, hF⟩) dX7_readAs_115
                · have hF := hF.2 c20
                  refine lv_aload_n C.1 C.2.1 dX7_readAs_98 rfl (lv_at hl 1 rfl) ?_
                  refine lv_iload_n C.1 C.2.1 dX7_readAs_99 rfl (lv_at hl 2 rfl) ?_
                  obtain ⟨o21, hF⟩ := hF
                  refine zgoi (zrunV (As := [.int (zI (a))]) (rest := []) C hE hH hS hl.1 (c_X7_readLine (l := l) hC (a) ha o21) k_RX7_76 ⟨Nat.le_of_ble_eq_true rfl, Nat.le_of_ble_eq_true rfl⟩ (zRr_n0 hC.1) (zRr_k0 hC.1) rfl rfl rfl (Nat.le_of_ble_eq_true rfl) dX7_readAs_100 ⟨Nat.zero_le _, Nat.zero_le _⟩) hS (fun rq X22 Yq Rq H locs hrq hq hH hS => ?_)
                  obtain ⟨h9Y, h9R, hq⟩ := hq
                  dsimp only at h9Y h9R
                  rw [h9Y, h9R] at hH
                  obtain ⟨r23, h91, hq⟩ := hq
                  subst h91
                  have hF := hF r23 X22 hH.2.2.1 hq
                  refine zd_ifB_ne C 109 dX7_readAs_103 (by decide) (fun c24 => ?_) (fun c24 => ?_)
                  · have hF := hF.1 c24
                    refine zd_iinc (k := 0) (lv' := [(4, .int (zI (k + 1))), (0, .ref (bs + (i))), (1, .int (zI (a))), (2, .ref (bs + (j))), (3, .int (zI (g)))]) C hl rfl dX7_readAs_109 (by decide) rfl (fun ls hl => ?_)
                    refine lv_goto (tgt := 82) C.1 C.2.1 dX7_readAs_112 (by decide) ?_
                    obtain ⟨o25, hF⟩ := hF
                    exact ih17 (k + 1) X22 o25 hF.1 (Nat.lt_of_lt_of_le hF.2 (Nat.le_of_lt_succ hmu17)) _ _ _ hH hS (lv_sub hl [0, 1, 2, 3, 4] rfl)
                  · have hF := hF.2 c24
                    refine lv_goto (tgt := 115) C.1 C.2.1 dX7_readAs_106 (by decide) ?_
                    exact zd_vret C hr hlk hH hS (⟨rfl, hF⟩) dX7_readAs_115
          exact L17 (((700 - (0 : Int)).toNat) + 1) ((0 : Int)) X16 (by decide) hI17 (Nat.lt_succ_self _) _ _ _ hH hS (lv_sub hl [0, 1, 2, 3, 4] rfl)
        · exact absurd (by decide) c14
theorem rdL_go {T : Int → Int} {n : Nat} {a : Int} {s s' : rST} (h : rdL T n a s = .inr s') (hs : s.1 ≤ n) (hk : tkS T n s.1 ≠ 0) : s.1 < s'.1 ∧ s'.1 ≤ n := by
  have le := tk_le (T := T) hs
  have lk := le.2.2 hk
  have pb := ptN_b (T := T) (n := n) (p := tkN T n s.1) le.2.1.2 (ncN a)
  by_cases hw : kwT T n s.1 a = -1
  · rw [rdL_k hw] at h
    cases h
  · cases e : rdN T n a (kwT T n s.1 a) s.2.1.1 (tkN T n s.1) (f1L T n a (kwT T n s.1 a) s) (ncN a) with
    | inl pl =>
      rw [rdL_l rfl hw e] at h
      cases h
    | inr f =>
      rw [rdL_n rfl hw e] at h
      cases h
      exact ⟨by show s.1 < ptN T n (tkN T n s.1) (ncN a); omega, pb.2⟩
theorem d0_told {X : Nat → Int → Int} {i : Nat} {a : Int} (ha : 0 ≤ a ∧ a ≤ 4) (hn : ∀ w : Int, 0 ≤ w → w ≤ 6 → X (i + 1) w = if w = 0 then 2 else if w < 3 then 10 else if w = 5 then 5 else 0) (hb : X (i + 3) 0 = 0) (h0 : X (i + 12) 2 = 0) (h1 : X (i + 14) 2 = 0) (h2 : X (i + 16) 2 = 0) : toldR X i a (d0R a, 0) := by
  unfold toldR
  have e : a = 0 ∨ a = 1 ∨ a = 2 ∨ a = 3 ∨ a = 4 := by omega
  rcases e with rfl | rfl | rfl | rfl | rfl
  · rw [if_pos rfl]
    exact ⟨fun w w0 w6 => hn w w0 w6, fun y y0 y1 => by have y1 : y < 0 := y1; omega⟩
  · rw [if_neg (by decide), if_pos rfl]
    exact ⟨⟨hb, rfl⟩, fun k k1 k2 => by have k2 : k ≤ 0 := k2; omega⟩
  · rw [if_neg (by decide), if_neg (by decide)]
    exact ⟨h0, fun k w k0 k1 => by have k1 : k < X (i + 12) 2 := k1; omega⟩
  · rw [if_neg (by decide), if_neg (by decide)]
    exact ⟨h1, fun k w k0 k1 => by have k1 : k < X (i + 14) 2 := k1; omega⟩
  · rw [if_neg (by decide), if_neg (by decide)]
    exact ⟨h2, fun k w k0 k1 => by have k1 : k < X (i + 16) 2 := k1; omega⟩
theorem v_X7_readAs {X Y : Nat → Int → Int} {R : Nat → Int → Option Nat} {i j : Nat} (a : Int) (ha : rI a) (g : Int) (hg : rI g) (hp : (0 ≤ a ∧ a ≤ 4) ∧ (0 ≤ g ∧ g ≤ 600) ∧ (j < i ∨ i + 17 < j) ∧ (rdV X i ∧ lnV X i) ∧ ∀ y : Int, 0 ≤ y → y < 600 → -128 ≤ X j y ∧ X j y ≤ 127) : F_X7_readAs i j X Y R a g := by
  unfold F_X7_readAs
  intro hX hY
  obtain ⟨ha, hg, hj, ⟨hv, hl⟩, hb⟩ := hp
  have eg : min g 600 = g := by omega
  rw [eg]
  intro R1
  intro eR1
  intro X2
  intro eX2
  intro rX2
  intro X3
  intro eX3
  intro rX3
  intro X4
  intro eX4
  intro rX4
  intro X5
  intro eX5
  intro rX5
  intro X6
  intro rX6
  intro h1
  intro X7
  intro eX7
  intro rX7
  intro X9
  intro eX9
  intro rX9
  intro X11
  intro eX11
  intro rX11
  intro X13
  intro eX13
  have o13 : ∀ z, z ≠ i → z ≠ i + 1 → z ≠ i + 3 → z ≠ i + 12 → z ≠ i + 14 → z ≠ i + 16 → X13 z = X z := fun z z0 z1 z3 z12 z14 z16 => by
    rw [eX13, zU_o z16, eX11, zU_o z14, eX9, zU_o z12, eX7, zU_o z3, h1, zU_o z1, zU_o z1, zU_o z1, zU_o z1, zU_o z1, zU_o z1, zU_o z1, eX5, zU_o z0, eX4, zU_o z0, eX3, zU_o z0, eX2, zU_o z0]
  have i13 : X13 i = X5 i := by rw [eX13, zU_o (by omega), eX11, zU_o (by omega), eX9, zU_o (by omega), eX7, zU_o (by omega), h1, zU_o (by omega), zU_o (by omega), zU_o (by omega), zU_o (by omega), zU_o (by omega), zU_o (by omega), zU_o (by omega)]
  have q6 : X13 i 6 = g := by rw [i13, eX5, zU_n (by omega), eX4, zU_n (by omega), eX3, zU_n (by omega), eX2, zU_s]
  have q7 : X13 i 7 = ((0 : Nat) : Int) := by
    rw [i13, eX5, zU_n (by omega), eX4, zU_n (by omega), eX3, zU_s]
    rfl
  have q3 : X13 i 3 = 0 := by rw [i13, eX5, zU_n (by omega), eX4, zU_s]
  have q4 : X13 i 4 = -1 := by rw [i13, eX5, zU_s]
  have n13 : X13 (i + 1) = X6 (i + 1) := by rw [eX13, zU_o (by omega), eX11, zU_o (by omega), eX9, zU_o (by omega), eX7, zU_o (by omega)]
  have b0 : X13 (i + 3) 0 = 0 := by rw [eX13, zU_o (by omega), eX11, zU_o (by omega), eX9, zU_o (by omega), eX7, zU_s]
  have r0 : X13 (i + 12) 2 = 0 := by rw [eX13, zU_o (by omega), eX11, zU_o (by omega), eX9, zU_s]
  have r1 : X13 (i + 14) 2 = 0 := by rw [eX13, zU_o (by omega), eX11, zU_s]
  have r2 : X13 (i + 16) 2 = 0 := by rw [eX13, zU_s]
  have w0 : ∀ s : Int, s ≠ 2 → X13 (i + 12) s = X (i + 12) s ∧ X13 (i + 14) s = X (i + 14) s ∧ X13 (i + 16) s = X (i + 16) s := fun s hs => by
    have o6 : ∀ z, z ≠ i → z ≠ i + 1 → X6 z = X z := fun z z0 z1 => by rw [h1, zU_o z1, zU_o z1, zU_o z1, zU_o z1, zU_o z1, zU_o z1, zU_o z1, eX5, zU_o z0, eX4, zU_o z0, eX3, zU_o z0, eX2, zU_o z0]
    refine ⟨?_, ?_, ?_⟩
    · rw [eX13, zU_o (by omega), eX11, zU_o (by omega), eX9, zU_n (by omega), eX7, zU_o (by omega), o6 _ (by omega) (by omega)]
    · rw [eX13, zU_o (by omega), eX11, zU_n (by omega), eX9, zU_o (by omega), eX7, zU_o (by omega), o6 _ (by omega) (by omega)]
    · rw [eX13, zU_n (by omega), eX11, zU_o (by omega), eX9, zU_o (by omega), eX7, zU_o (by omega), o6 _ (by omega) (by omega)]
  have nw : ∀ w : Int, 0 ≤ w → w ≤ 6 → X13 (i + 1) w = if w = 0 then 2 else if w < 3 then 10 else if w = 5 then 5 else 0 := fun w g0 g6 => by
    rw [n13, h1]
    have e : w = 0 ∨ w = 1 ∨ w = 2 ∨ w = 3 ∨ w = 4 ∨ w = 5 ∨ w = 6 := by omega
    rcases e with rfl | rfl | rfl | rfl | rfl | rfl | rfl
    · rw [zU_n (by omega), zU_n (by omega), zU_n (by omega), zU_n (by omega), zU_n (by omega), zU_n (by omega), zU_s]; rfl
    · rw [zU_n (by omega), zU_n (by omega), zU_n (by omega), zU_n (by omega), zU_n (by omega), zU_s]; rfl
    · rw [zU_n (by omega), zU_n (by omega), zU_n (by omega), zU_n (by omega), zU_s]; rfl
    · rw [zU_n (by omega), zU_n (by omega), zU_n (by omega), zU_s]; rfl
    · rw [zU_n (by omega), zU_n (by omega), zU_s]; rfl
    · rw [zU_n (by omega), zU_s]; rfl
    · rw [zU_s]; rfl
  have rr : ∀ {r : Nat} {wd mo : Int} {nn : Nat}, X13 r 2 = 0 → (∀ s : Int, s ≠ 2 → X13 r s = X r s) → rowV X r wd mo nn → rowV X13 r wd mo nn := fun {r wd mo nn} a0 a1 a2 => by
    obtain ⟨⟨c1, c2, c3, c4⟩, c5, c6⟩ := a2
    exact ⟨⟨by rw [a1 0 (by decide)]; exact c1, by rw [a0, a1 1 (by decide)]; omega, by rw [a1 1 (by decide)]; exact c3, by rw [a1 0 (by decide), a1 1 (by decide)]; exact c4⟩, by rw [a1 0 (by decide)]; exact c5, by rw [a1 1 (by decide)]; exact c6⟩
  have v13 : rdV X13 i := by
    refine ⟨⟨?_, ?_⟩, ⟨?_, ?_, ?_⟩, rr r0 (fun s hs => (w0 s hs).1) hv.2.2.1, rr r1 (fun s hs => (w0 s hs).2.1) hv.2.2.2.1, rr r2 (fun s hs => (w0 s hs).2.2) hv.2.2.2.2⟩
    · rw [nw 6 (by decide) (by decide)]
      decide
    · unfold nV
      rw [o13 (i + 1 + 1) (by omega) (by omega) (by omega) (by omega) (by omega) (by omega)]
      exact hv.1.2
    · rw [b0]
      decide
    · unfold bV pyP
      rw [o13 (i + 3 + 5) (by omega) (by omega) (by omega) (by omega) (by omega) (by omega), o13 (i + 3 + 2) (by omega) (by omega) (by omega) (by omega) (by omega) (by omega), o13 (i + 3 + 4) (by omega) (by omega) (by omega) (by omega) (by omega) (by omega)]
      exact hv.2.1.2.1
    · rw [o13 (i + 7) (by omega) (by omega) (by omega) (by omega) (by omega) (by omega)]
      exact hv.2.1.2.2
  have l13 : lnV X13 i := lnV_o (o13 _ (by omega) (by omega) (by omega) (by omega) (by omega) (by omega)) hl
  have j13 : X13 j = X j := o13 j (by omega) (by omega) (by omega) (by omega) (by omega) (by omega)
  have c13 : oRc X13 i j := ⟨by rw [j13]; exact hb, by rw [q7, q6]; exact ⟨by decide, hg.1⟩, by rw [q6]; exact hg.2, by omega⟩
  intro rX13
  refine ⟨?_, ?_⟩
  · exact c13
  intro X16
  intro rX16
  intro h2
  have S := sp_l (X := X13) (XE := X13) (fun _ _ _ => rfl) (fun _ _ => rfl) v13 l13 hj c13 q7 (Nat.zero_le _) h2
  obtain ⟨xa, sa, va, la, ra, ⟨u3, u4, u11⟩, tt⟩ := S
  clear h2
  refine ⟨?_, ?_⟩
  · refine ⟨fun z hz => (xa z (by omega) (by omega)).trans (o13 z (by omega) (by omega) (by omega) (by omega) (by omega) (by omega)), ⟨(sa 6 (by decide)).trans q6, ra⟩, ⟨va, la⟩, 0, rfl, ⟨⟨Nat.zero_le _, rtA_of (xa j (by omega) (by omega)) (sa 6 (by decide)) tt⟩, ⟨u3.trans q3, fun z => absurd rfl z⟩, fun _ => ?_⟩, fun _ => u4.trans q4, Nat.zero_le _, _, rfl, ?_⟩
    · exact toldR_o ha xa (d0_told ha nw b0 r0 r1 r2)
    · show g.toNat < g.toNat + 1 + 0
      omega
  intro k X18
  intro _
  intro rX18
  intro h3
  obtain ⟨fx, ⟨e6, r18⟩, ⟨v18, l18⟩, q, rfl, hS, h4, hq, fu, hA, hfu⟩ := h3
  have eT : X18 j = X j := fx j hj
  have en : (X18 i 6).toNat = g.toNat := by rw [e6]
  rw [show ((q : Nat) : Int).toNat = q from rfl]
  have sn : (stF (X j) g.toNat a q).1 ≤ g.toNat := by
    have h := hS.1.1
    rw [en] at h
    exact h
  have k9 : X18 i 9 = cTk (tkS (X j) g.toNat (stF (X j) g.toNat a q).1) := by
    have := hS.1.2.2.2.1
    rw [eT, en] at this
    exact this
  refine ⟨?_, ?_⟩
  · intro c1
    exfalso
    omega
  intro c2
  refine ⟨?_, ?_⟩
  · intro c3
    have k0 := cTk_e.mp (k9.symm.trans c3)
    refine ⟨eR1, fx, v18, l18, ?_⟩
    rw [hA, rdA_e k0]
    refine ⟨hS.2.1.1, ?_, hS.2.2⟩
    by_cases z : (stF (X j) g.toNat a q).2.2.1 = 0
    · rw [if_pos z]
      exact h4 (hS.2.1.1.trans z)
    · rw [if_neg z]
      exact hS.2.1.2 z
  intro c4
  have k0 : tkS (X j) g.toNat (stF (X j) g.toNat a q).1 ≠ 0 := fun z => c4 (by rw [k9]; exact cTk_e.mpr z)
  have hs := rdA_s (of := a) hfu sn k0
  refine ⟨?_, ?_⟩
  · refine ⟨ha, ⟨r18, hj⟩, ⟨v18, l18⟩, hS, ?_⟩
    rw [eT, en]
    exact k0
  intro r23
  intro X22
  intro rX22
  intro h4
  obtain ⟨kr, v22, l22, hr, hp9⟩ := h4
  rw [eT, en] at hp9
  refine ⟨?_, ?_⟩
  · intro c5
    refine ⟨?_, ?_⟩
    · first | omega | exact ⟨by omega, by omega⟩ | decide | assumption | exact ⟨by omega, by omega, by omega⟩ | exact ⟨by decide, by decide⟩
    refine ⟨?_, ?_⟩
    · cases e : rdL (X j) g.toNat a (stF (X j) g.toNat a q) with
      | inl pl =>
        rw [e] at hp9
        exact absurd (hp9.1.symm.trans c5) (by decide)
      | inr s' =>
        rw [e] at hp9 hs
        by_cases k4 : tkS (X j) g.toNat s'.1 = 4
        · have hp9 : r23 = true ∧ crS X22 i j a (tkN (X j) g.toNat s'.1, s'.2) := by
            have h : if tkS (X j) g.toNat s'.1 = 4 then _ else _ := hp9
            rwa [if_pos k4] at h
          have hs : rdA (X j) g.toNat a fu (stF (X j) g.toNat a q) = rdA (X j) g.toNat a (fu - 1) (tkN (X j) g.toNat s'.1, s'.2) := by rw [hs]; show (if tkS (X j) g.toNat s'.1 = 4 then _ else _) = _; rw [if_pos k4]
          have st1 : stF (X j) g.toNat a (q + 1) = (tkN (X j) g.toNat s'.1, s'.2) := by
            show (match rdL (X j) g.toNat a (stF (X j) g.toNat a q) with | .inr s' => (tkN (X j) g.toNat s'.1, s'.2) | .inl _ => stF (X j) g.toNat a q) = _
            rw [e]
          obtain ⟨g1, g2⟩ := rdL_go e sn k0
          have lk := (tk_le (T := X j) g2)
          have lk2 := lk.2.2 (by rw [k4]; decide)
          obtain ⟨r22, f22⟩ := hr c5
          refine ⟨fun z hz => (kr.1 z hz).trans (fx z hz), ⟨(kr.2 6 (by decide)).trans e6, r22⟩, ⟨v22, l22⟩, q + 1, rfl, by rw [st1]; exact hp9.2, fun z => ?_, ?_, fu - 1, by rw [hA, hs, st1], ?_⟩
          · have z1 := f22 z
            rw [z1.1]
            exact h4 z1.2
          · rw [st1]
            show q + 1 ≤ tkN (X j) g.toNat s'.1
            omega
          · rw [st1]
            show g.toNat < fu - 1 + tkN (X j) g.toNat s'.1
            omega
        · have h : if tkS (X j) g.toNat s'.1 = 4 then _ else _ := hp9
          rw [if_neg k4] at h
          exact absurd (h.1.symm.trans c5) (by decide)
    first | omega | exact ⟨by omega, by omega⟩ | decide | assumption | exact ⟨by omega, by omega, by omega⟩ | exact ⟨by decide, by decide⟩
  intro c6
  refine ⟨eR1, fun z hz => (kr.1 z hz).trans (fx z hz), v22, l22, ?_⟩
  cases e : rdL (X j) g.toNat a (stF (X j) g.toNat a q) with
  | inl pl =>
    rw [e] at hp9 hs
    rw [hA, hs]
    exact ⟨hp9.2.1, hp9.2.2⟩
  | inr s' =>
    rw [e] at hp9 hs
    have h : if tkS (X j) g.toNat s'.1 = 4 then _ else _ := hp9
    by_cases k4 : tkS (X j) g.toNat s'.1 = 4
    · rw [if_pos k4] at h
      exact absurd (h.1.symm.trans c6) (by decide)
    · rw [if_neg k4] at h
      rw [hA, hs]
      show roR X22 i a (if tkS (X j) g.toNat s'.1 = 4 then _ else _)
      rw [if_neg k4]
      exact ⟨h.2.1, h.2.2⟩
theorem c_X7_readAs {l : Launch} {D : va_G} {cy : Nat → ClassId} {bs N : Nat} {sa : Nat → Nat} {kd len : Nat → Nat} {X Y : Nat → Int → Int} {R : Nat → Int → Option Nat} {i j : Nat} (hC : zRdr N kd len R i ∧ True) (hT : j < N ∧ kd j = 12 ∧ len j = 600) (a : Int) (ha : rI a) (g : Int) (hg : rI g) (hp : (0 ≤ a ∧ a ≤ 4) ∧ (0 ≤ g ∧ g ≤ 600) ∧ (j < i ∨ i + 17 < j) ∧ (rdV X i ∧ lnV X i) ∧ ∀ y : Int, 0 ≤ y → y < 600 → -128 ≤ X j y ∧ X j y ≤ 127) : Met l yX7_readAs (.code yX7_readAs cX7_readAs 5 none :: zTB) (zRm 7 153) (zPc D cy bs sa N kd len X Y R [.ref (bs + (i)), .int (zI (a)), .ref (bs + (j)), .int (zI (g))]) (zQv D cy bs N kd len (fun st => st.2.1 = Y ∧ ((st.2.2) = zU R i 5 (some j) ∧ (∀ z, (z < i ∨ i + 17 < z) → (st.1) z = X z) ∧ rdV (st.1) i ∧ lnV (st.1) i ∧ roR (st.1) i (a) (rdA (X j) (g).toNat (a) ((g).toNat + 1) (s0R (a)))))) 0 0 (zA bs) := w_X7_readAs hC hT a ha g hg (v_X7_readAs a ha g hg hp)
