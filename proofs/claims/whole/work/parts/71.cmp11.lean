/-! EACH PAY OF A BLOCK -/
/-- the ledger at j after so many pays of a block, and how many were done -/
def pyW (X : Nat → Int → Int) (i j : Nat) (k : Int) : Nat → (Nat → Int → Int) × Int
  | 0 => (X, 0)
  | q + 1 => if cPk (pyW X i j k q).1 j (X (i + 5) ((k * 3 + q) * 3 + 0)) (X (i + 5) ((k * 3 + q) * 3 + 1)) (X (i + 5) ((k * 3 + q) * 3 + 2)) 0 = true then (cPa (pyW X i j k q).1 j (X (i + 5) ((k * 3 + q) * 3 + 0)) (X (i + 5) ((k * 3 + q) * 3 + 1)) (X (i + 5) ((k * 3 + q) * 3 + 2)) 0, (pyW X i j k q).2 + 1) else pyW X i j k q
theorem pyW_o {X : Nat → Int → Int} {i j : Nat} {k : Int} : ∀ (q z : Nat), z ≠ j + 1 → (pyW X i j k q).1 z = X z
  | 0, _, _ => rfl
  | q + 1, z, h => by
    have ih := pyW_o (X := X) (i := i) (j := j) (k := k) q z h
    unfold pyW
    split
    · show cPa _ _ _ _ _ _ z = _
      unfold cPa
      rw [zU_o h, zU_o h]
      exact ih
    · exact ih
theorem cPa_b {X : Nat → Int → Int} {j : Nat} {a b g M : Int} (hg : 0 ≤ g ∧ g ≤ 99) (h : ∀ y : Int, 0 ≤ y → y < 6 → 0 ≤ X (j + 1) y ∧ X (j + 1) y ≤ M) (hc : cPk X j a b g 0 = true) : ∀ y : Int, 0 ≤ y → y < 6 → 0 ≤ cPa X j a b g 0 (j + 1) y ∧ cPa X j a b g 0 (j + 1) y ≤ M + 99 := by
  unfold cPk at hc
  rw [Bool.and_eq_true, Bool.and_eq_true, decide_eq_true_eq, decide_eq_true_eq, decide_eq_true_eq] at hc
  obtain ⟨⟨ca, cb⟩, cg⟩ := hc
  intro y y0 y1
  have ha := h a ca.1 ca.2.2
  have hb := h b cb.1 cb.2.2
  have hy := h y y0 y1
  unfold cPa
  rw [zU_up, zU_up]
  unfold upI
  split
  · split
    · exact ⟨by omega, by omega⟩
    · exact ⟨by omega, by omega⟩
  · split
    · exact ⟨by omega, by omega⟩
    · exact ⟨by omega, by omega⟩
theorem pyW_b {X : Nat → Int → Int} {i j : Nat} {k : Int} (hk : 0 ≤ k ∧ k < 15) (hm : ∀ y : Int, 0 ≤ y → y < 135 → 0 ≤ X (i + 5) y ∧ X (i + 5) y ≤ 99) (hl : ∀ y : Int, 0 ≤ y → y < 6 → 0 ≤ X (j + 1) y ∧ X (j + 1) y ≤ 999999000) : ∀ q : Nat, q ≤ 3 → (∀ y : Int, 0 ≤ y → y < 6 → 0 ≤ (pyW X i j k q).1 (j + 1) y ∧ (pyW X i j k q).1 (j + 1) y ≤ 999999000 + 99 * q) ∧ 0 ≤ (pyW X i j k q).2 ∧ (pyW X i j k q).2 ≤ q
  | 0, _ => ⟨fun y y0 y1 => ⟨(hl y y0 y1).1, by have := (hl y y0 y1).2; show X (j + 1) y ≤ _; omega⟩, Int.le_refl _, Int.le_refl _⟩
  | q + 1, hq => by
    obtain ⟨i1, i2, i3⟩ := pyW_b hk hm hl q (by omega)
    unfold pyW
    split
    · rename_i c
      have b := cPa_b (hm ((k * 3 + q) * 3 + 2) (by omega) (by omega)) i1 c
      exact ⟨fun y y0 y1 => ⟨(b y y0 y1).1, by have := (b y y0 y1).2; show cPa _ _ _ _ _ _ _ _ ≤ _; omega⟩, by show 0 ≤ (pyW X i j k q).2 + 1; omega, by show (pyW X i j k q).2 + 1 ≤ _; omega⟩
    · exact ⟨fun y y0 y1 => ⟨(i1 y y0 y1).1, by have := (i1 y y0 y1).2; omega⟩, i2, by omega⟩
abbrev cX0_payEach : ByteArray := prog_2_method_8_code
def yX0_payEach : MethodName := ⟨RX0, "payEach", "(ILWorkChains$Ledger;)I"⟩
theorem dX0_payEach_0 : decode cX0_payEach 0 = .ok (.iconst 0, 1) := by decide +kernel
theorem dX0_payEach_1 : decode cX0_payEach 1 = .ok (.istore_n 3, 1) := by decide +kernel
theorem dX0_payEach_2 : decode cX0_payEach 2 = .ok (.iconst 0, 1) := by decide +kernel
theorem dX0_payEach_3 : decode cX0_payEach 3 = .ok (.istore 4, 2) := by decide +kernel
theorem dX0_payEach_5 : decode cX0_payEach 5 = .ok (.iload 4, 2) := by decide +kernel
theorem dX0_payEach_7 : decode cX0_payEach 7 = .ok (.aload_n 0, 1) := by decide +kernel
theorem dX0_payEach_8 : decode cX0_payEach 8 = .ok (.getfield 21, 3) := by decide +kernel
theorem dX0_payEach_11 : decode cX0_payEach 11 = .ok (.iload_n 1, 1) := by decide +kernel
theorem dX0_payEach_12 : decode cX0_payEach 12 = .ok (.iaload, 1) := by decide +kernel
theorem dX0_payEach_13 : decode cX0_payEach 13 = .ok (.if_icmp .ge 50, 3) := by decide +kernel
theorem dX0_payEach_16 : decode cX0_payEach 16 = .ok (.iload 4, 2) := by decide +kernel
theorem dX0_payEach_18 : decode cX0_payEach 18 = .ok (.iconst 3, 1) := by decide +kernel
theorem dX0_payEach_19 : decode cX0_payEach 19 = .ok (.if_icmp .ge 44, 3) := by decide +kernel
theorem dX0_payEach_22 : decode cX0_payEach 22 = .ok (.aload_n 2, 1) := by decide +kernel
theorem dX0_payEach_23 : decode cX0_payEach 23 = .ok (.aload_n 0, 1) := by decide +kernel
theorem dX0_payEach_24 : decode cX0_payEach 24 = .ok (.iload_n 1, 1) := by decide +kernel
theorem dX0_payEach_25 : decode cX0_payEach 25 = .ok (.iload 4, 2) := by decide +kernel
theorem dX0_payEach_27 : decode cX0_payEach 27 = .ok (.iconst 0, 1) := by decide +kernel
theorem dX0_payEach_28 : decode cX0_payEach 28 = .ok (.invokevirtual 41, 3) := by decide +kernel
theorem dX0_payEach_31 : decode cX0_payEach 31 = .ok (.aload_n 0, 1) := by decide +kernel
theorem dX0_payEach_32 : decode cX0_payEach 32 = .ok (.iload_n 1, 1) := by decide +kernel
theorem dX0_payEach_33 : decode cX0_payEach 33 = .ok (.iload 4, 2) := by decide +kernel
theorem dX0_payEach_35 : decode cX0_payEach 35 = .ok (.iconst 1, 1) := by decide +kernel
theorem dX0_payEach_36 : decode cX0_payEach 36 = .ok (.invokevirtual 41, 3) := by decide +kernel
theorem dX0_payEach_39 : decode cX0_payEach 39 = .ok (.aload_n 0, 1) := by decide +kernel
theorem dX0_payEach_40 : decode cX0_payEach 40 = .ok (.iload_n 1, 1) := by decide +kernel
theorem dX0_payEach_41 : decode cX0_payEach 41 = .ok (.iload 4, 2) := by decide +kernel
theorem dX0_payEach_43 : decode cX0_payEach 43 = .ok (.iconst 2, 1) := by decide +kernel
theorem dX0_payEach_44 : decode cX0_payEach 44 = .ok (.invokevirtual 41, 3) := by decide +kernel
theorem dX0_payEach_47 : decode cX0_payEach 47 = .ok (.iconst 0, 1) := by decide +kernel
theorem dX0_payEach_48 : decode cX0_payEach 48 = .ok (.invokevirtual 45, 3) := by decide +kernel
theorem dX0_payEach_51 : decode cX0_payEach 51 = .ok (.ifCond .eq 6, 3) := by decide +kernel
theorem dX0_payEach_54 : decode cX0_payEach 54 = .ok (.iinc 3 1, 3) := by decide +kernel
theorem dX0_payEach_57 : decode cX0_payEach 57 = .ok (.iinc 4 1, 3) := by decide +kernel
theorem dX0_payEach_60 : decode cX0_payEach 60 = .ok (.goto (-55), 3) := by decide +kernel
theorem dX0_payEach_63 : decode cX0_payEach 63 = .ok (.iload_n 3, 1) := by decide +kernel
theorem dX0_payEach_64 : decode cX0_payEach 64 = .ok (.ireturn, 1) := by decide +kernel
theorem q_947 : Cond.methodLink RX0 41 yX0_payPart ∈ zTB := zmem 947 (by decide +kernel) rfl
theorem q_859 : Cond.instanceMethod yX0_payPart ∈ zTB := zmem 859 (by decide +kernel) rfl
theorem q_860 : Cond.selects RX0 yX0_payPart yX0_payPart ∈ zTB := zmem 860 (by decide +kernel) rfl
theorem q_861 : Cond.code yX0_payPart cX0_payPart 5 (some .int) ∈ zTB := zmem 861 (by decide +kernel) rfl
theorem k_RX0_41 : zLv RX0 41 RX0 yX0_payPart cX0_payPart 5 (some .int) 3 := ⟨⟨q_947, q_859, q_860, q_132, q_861⟩, rfl, ⟨by decide, by decide⟩, by decide +kernel⟩
theorem q_948 : Cond.methodLink RX0 45 yX5_pay ∈ zTB := zmem 948 (by decide +kernel) rfl
theorem q_949 : Cond.instanceMethod yX5_pay ∈ zTB := zmem 949 (by decide +kernel) rfl
theorem q_950 : Cond.selects RX5 yX5_pay yX5_pay ∈ zTB := zmem 950 (by decide +kernel) rfl
theorem q_951 : Cond.code yX5_pay cX5_pay 5 (some .boolean) ∈ zTB := zmem 951 (by decide +kernel) rfl
theorem k_RX0_45 : zLv RX0 45 RX5 yX5_pay cX5_pay 5 (some .boolean) 4 := ⟨⟨q_948, q_949, q_950, q_136, q_951⟩, rfl, ⟨by decide, by decide⟩, by decide +kernel⟩
def F_X0_payEach (i j : Nat) (X Y : Nat → Int → Int) (R : Nat → Int → Option Nat) (a : Int) : Prop := (∀ i j, rI (X i j)) → (∀ i j, rL (Y i j)) → (∃ q : Nat, (0 : Int) = q ∧ q ≤ 3 ∧ (0 < q → (q : Int) ≤ X (i + 4) a) ∧ X = (pyW X i j a q).1 ∧ (0 : Int) = (pyW X i j a q).2) ∧ (∀ (dn : Int) (k : Int) (X2 : Nat → Int → Int), rI dn → rI k → (∀ i j, rI (X2 i j)) → (∃ q : Nat, k = q ∧ q ≤ 3 ∧ (0 < q → (q : Int) ≤ X (i + 4) a) ∧ X2 = (pyW X i j a q).1 ∧ dn = (pyW X i j a q).2) → ((0 ≤ a ∧ a < 15) ∧ ((((X2 (i + 4) (a)) ≤ k) → (∃ q : Nat, q ≤ 3 ∧ (q : Int) = max 0 (min 3 (X (i + 4) (a))) ∧ (X2) = (pyW X i j (a) q).1 ∧ dn = (pyW X i j (a) q).2)) ∧ ((¬ ((X2 (i + 4) (a)) ≤ k)) → (((3 ≤ k) → (∃ q : Nat, q ≤ 3 ∧ (q : Int) = max 0 (min 3 (X (i + 4) (a))) ∧ (X2) = (pyW X i j (a) q).1 ∧ dn = (pyW X i j (a) q).2)) ∧ ((¬ (3 ≤ k)) → (((0 ≤ (a) ∧ (a) < 15) ∧ (0 ≤ (k) ∧ (k) < 3) ∧ 0 ≤ ((0 : Int)) ∧ ((0 : Int)) < 3) ∧ (rI (X2 (i + 5) (((a) * 3 + (k)) * 3 + ((0 : Int)))) → (((0 ≤ (a) ∧ (a) < 15) ∧ (0 ≤ (k) ∧ (k) < 3) ∧ 0 ≤ ((1 : Int)) ∧ ((1 : Int)) < 3) ∧ (rI (X2 (i + 5) (((a) * 3 + (k)) * 3 + ((1 : Int)))) → (((0 ≤ (a) ∧ (a) < 15) ∧ (0 ≤ (k) ∧ (k) < 3) ∧ 0 ≤ ((2 : Int)) ∧ ((2 : Int)) < 3) ∧ (rI (X2 (i + 5) (((a) * 3 + (k)) * 3 + ((2 : Int)))) → (((0 ≤ (X2 (i + 5) (((a) * 3 + (k)) * 3 + ((2 : Int)))) ∧ (X2 (i + 5) (((a) * 3 + (k)) * 3 + ((2 : Int)))) ≤ 99) ∧ (0 ≤ (0 : Int) ∧ (0 : Int) ≤ 9) ∧ ∀ y : Int, 0 ≤ y → y < 6 → 0 ≤ X2 (j + 1) y ∧ X2 (j + 1) y ≤ 1000000000) ∧ (∀ r14 : Bool, ∀ X13 : Nat → Int → Int, (∀ i j, rI (X13 i j)) → (r14 = cPk X2 j ((X2 (i + 5) (((a) * 3 + (k)) * 3 + ((0 : Int))))) ((X2 (i + 5) (((a) * 3 + (k)) * 3 + ((1 : Int))))) ((X2 (i + 5) (((a) * 3 + (k)) * 3 + ((2 : Int))))) ((0 : Int)) ∧ (r14 = false → (X13) = X2) ∧ (r14 = true → (X13) = cPa X2 j ((X2 (i + 5) (((a) * 3 + (k)) * 3 + ((0 : Int))))) ((X2 (i + 5) (((a) * 3 + (k)) * 3 + ((1 : Int))))) ((X2 (i + 5) (((a) * 3 + (k)) * 3 + ((2 : Int))))) ((0 : Int)))) → (((r14 = false) → ((rI (k + 1)) ∧ (∃ q : Nat, k + 1 = q ∧ q ≤ 3 ∧ (0 < q → (q : Int) ≤ X (i + 4) a) ∧ X13 = (pyW X i j a q).1 ∧ dn = (pyW X i j a q).2) ∧ (((3 - (k + 1)).toNat) < ((3 - (k)).toNat)))) ∧ ((r14 = true) → ((rI (dn + 1)) ∧ (rI (k + 1)) ∧ (∃ q : Nat, k + 1 = q ∧ q ≤ 3 ∧ (0 < q → (q : Int) ≤ X (i + 4) a) ∧ X13 = (pyW X i j a q).1 ∧ dn + 1 = (pyW X i j a q).2) ∧ (((3 - (k + 1)).toNat) < ((3 - (k)).toNat)))))))))))))))))))
set_option maxHeartbeats 4000000 in
set_option maxRecDepth 100000 in
theorem w_X0_payEach {l : Launch} {D : va_G} {cy : Nat → ClassId} {bs N : Nat} {sa : Nat → Nat} {kd len : Nat → Nat} {X Y : Nat → Int → Int} {R : Nat → Int → Option Nat} {i j : Nat} (hC : zBlocks N kd len R i) (hD : zLedger N kd len R j) (a : Int) (ha : rI a) (hF : F_X0_payEach i j X Y R a) : Met l yX0_payEach (.code yX0_payEach cX0_payEach 5 (some .int) :: zTB) (zRm 2 45) (zPc D cy bs sa N kd len X Y R [.ref (bs + (i)), .int (zI (a)), .ref (bs + (j))]) (zQi D cy bs N kd len (fun r st => st.2.1 = Y ∧ st.2.2 = R ∧ (∃ q : Nat, q ≤ 3 ∧ (q : Int) = max 0 (min 3 (X (i + 4) (a))) ∧ (st.1) = (pyW X i j (a) q).1 ∧ r = (pyW X i j (a) q).2))) 0 0 (zA bs) := by
  refine zstart (by decide) (Nat.le_of_ble_eq_true rfl) ?_
  intro p e s m args below meth c ls C hE hH hr hlk hnm hl hargs
  have hF := hF hH.2.2.1 hH.2.2.2
  have hS : va_S (zA bs) s.heap s.heap [] := va_S.rf
  have hl : lv_has ls 5 [(0, .ref (bs + (i))), (1, .int (zI (a))), (2, .ref (bs + (j)))] := hl
  refine zd_iconst C dX0_payEach_0 ?_
  refine lv_istore_n (lv' := [(3, .int (zI (0))), (0, .ref (bs + (i))), (1, .int (zI (a))), (2, .ref (bs + (j)))]) C.1 C.2.1 dX0_payEach_1 rfl hl (by decide) rfl (fun ls hl => ?_)
  refine zd_iconst C dX0_payEach_2 ?_
  refine lv_istore (lv' := [(4, .int (zI (0))), (3, .int (zI (0))), (0, .ref (bs + (i))), (1, .int (zI (a))), (2, .ref (bs + (j)))]) C.1 C.2.1 dX0_payEach_3 hl (by decide) rfl (fun ls hl => ?_)
  obtain ⟨hI1, hF⟩ := hF
  have L1 : ∀ (fu : Nat) (dn : Int) (k : Int) (X2 : Nat → Int → Int), rI dn → rI k → (∃ q : Nat, k = q ∧ q ≤ 3 ∧ (0 < q → (q : Int) ≤ X (i + 4) a) ∧ X2 = (pyW X i j a q).1 ∧ dn = (pyW X i j a q).2) → ((3 - (k)).toNat) < fu → ∀ (H : Heap) (locs : List Loc) (ls : Array Slot), zH D cy bs N kd len X2 Y R H → va_S (zA bs) s.heap H locs → lv_has ls 5 [(3, .int (zI (dn))), (4, .int (zI (k))), (0, .ref (bs + (i))), (1, .int (zI (a))), (2, .ref (bs + (j)))] → W p l e (zRm 2 45) s m args below meth c H locs 0 0 (MQ below (zQi D cy bs N kd len (fun r st => st.2.1 = Y ∧ st.2.2 = R ∧ (∃ q : Nat, q ≤ 3 ∧ (q : Int) = max 0 (min 3 (X (i + 4) (a))) ∧ (st.1) = (pyW X i j (a) q).1 ∧ r = (pyW X i j (a) q).2))) args s 0 0 (zA bs)) (F0 m 5 ls []) := by
    intro fu
    induction fu with
    | zero => intro dn k X2 _ _ _ hmu; exact absurd hmu (Nat.not_lt_zero _)
    | succ fu ih1 =>
      intro dn k X2 hdn hk hI hmu1 H locs ls hH hS hl
      have hF := hF dn k X2 hdn hk hH.2.2.1 hI
      refine lv_iload C.1 C.2.1 dX0_payEach_5 (lv_at hl 1 rfl) ?_
      refine lv_aload_n C.1 C.2.1 dX0_payEach_7 rfl (lv_at hl 2 rfl) ?_
      refine zg0_4 C hH (zBlocks_n0 hC) (zBlocks_k0 hC) q_237 (zBlocks_r4 hC) dX0_payEach_8 ?_
      refine lv_iload_n C.1 C.2.1 dX0_payEach_11 rfl (lv_at hl 3 rfl) ?_
      obtain ⟨o3, hF⟩ := hF
      refine zd_iald C hH (zBlocks_n4 hC) (zBlocks_k4 hC) o3.1 (by rw [zBlocks_l4 hC]; exact o3.2) (by rw [zBlocks_l4 hC]; decide) dX0_payEach_12 ?_
      refine zd_icmp_ge C hk (hH.2.2.1 _ _) 63 dX0_payEach_13 (by decide) (fun c4 => ?_) (fun c4 => ?_)
      · have hF := hF.1 c4
        refine lv_iload_n C.1 C.2.1 dX0_payEach_63 rfl (lv_at hl 0 rfl) ?_
        exact zd_iret C hr hlk hH hS hdn (⟨rfl, rfl, hF⟩) dX0_payEach_64
      · have hF := hF.2 c4
        refine lv_iload C.1 C.2.1 dX0_payEach_16 (lv_at hl 1 rfl) ?_
        refine zd_iconst C dX0_payEach_18 ?_
        refine zd_icmp_ge C hk (by decide) 63 dX0_payEach_19 (by decide) (fun c5 => ?_) (fun c5 => ?_)
        · have hF := hF.1 c5
          refine lv_iload_n C.1 C.2.1 dX0_payEach_63 rfl (lv_at hl 0 rfl) ?_
          exact zd_iret C hr hlk hH hS hdn (⟨rfl, rfl, hF⟩) dX0_payEach_64
        · have hF := hF.2 c5
          refine lv_aload_n C.1 C.2.1 dX0_payEach_22 rfl (lv_at hl 4 rfl) ?_
          refine lv_aload_n C.1 C.2.1 dX0_payEach_23 rfl (lv_at hl 2 rfl) ?_
          refine lv_iload_n C.1 C.2.1 dX0_payEach_24 rfl (lv_at hl 3 rfl) ?_
          refine lv_iload C.1 C.2.1 dX0_payEach_25 (lv_at hl 1 rfl) ?_
          refine zd_iconst C dX0_payEach_27 ?_
          obtain ⟨o6, hF⟩ := hF
          refine zgoi (zrunV (As := [.int (zI (a)), .int (zI (k)), .int (zI (0))]) (rest := [.ref (bs + (j))]) C hE hH hS hl.1 (c_X0_payPart (l := l) hC (a) ha (k) hk (0) (by decide) o6) k_RX0_41 ⟨Nat.le_of_ble_eq_true rfl, Nat.le_of_ble_eq_true rfl⟩ (zBlocks_n0 hC) (zBlocks_k0 hC) rfl rfl rfl (Nat.le_of_ble_eq_true rfl) dX0_payEach_28 ⟨Nat.zero_le _, Nat.zero_le _⟩) hS (fun rq Xq Yq Rq H locs hrq hq hH hS => ?_)
          obtain ⟨h91, h92⟩ := hq
          have h93 : Xq = X2 := congrArg (fun z => z.1) h92
          have h94 : Yq = Y := congrArg (fun z => z.2.1) h92
          have h95 : Rq = R := congrArg (fun z => z.2.2) h92
          rw [h93, h94, h95] at hH
          subst h91
          have hr7 := hrq
          have hF := hF hr7
          refine lv_aload_n C.1 C.2.1 dX0_payEach_31 rfl (lv_at hl 2 rfl) ?_
          refine lv_iload_n C.1 C.2.1 dX0_payEach_32 rfl (lv_at hl 3 rfl) ?_
          refine lv_iload C.1 C.2.1 dX0_payEach_33 (lv_at hl 1 rfl) ?_
          refine zd_iconst C dX0_payEach_35 ?_
          obtain ⟨o8, hF⟩ := hF
          refine zgoi (zrunV (As := [.int (zI (a)), .int (zI (k)), .int (zI (1))]) (rest := [.int (zI (X2 (i + 5) (((a) * 3 + (k)) * 3 + ((0 : Int))))), .ref (bs + (j))]) C hE hH hS hl.1 (c_X0_payPart (l := l) hC (a) ha (k) hk (1) (by decide) o8) k_RX0_41 ⟨Nat.le_of_ble_eq_true rfl, Nat.le_of_ble_eq_true rfl⟩ (zBlocks_n0 hC) (zBlocks_k0 hC) rfl rfl rfl (Nat.le_of_ble_eq_true rfl) dX0_payEach_36 ⟨Nat.zero_le _, Nat.zero_le _⟩) hS (fun rq Xq Yq Rq H locs hrq hq hH hS => ?_)
          obtain ⟨h91, h92⟩ := hq
          have h93 : Xq = X2 := congrArg (fun z => z.1) h92
          have h94 : Yq = Y := congrArg (fun z => z.2.1) h92
          have h95 : Rq = R := congrArg (fun z => z.2.2) h92
          rw [h93, h94, h95] at hH
          subst h91
          have hr9 := hrq
          have hF := hF hr9
          refine lv_aload_n C.1 C.2.1 dX0_payEach_39 rfl (lv_at hl 2 rfl) ?_
          refine lv_iload_n C.1 C.2.1 dX0_payEach_40 rfl (lv_at hl 3 rfl) ?_
          refine lv_iload C.1 C.2.1 dX0_payEach_41 (lv_at hl 1 rfl) ?_
          refine zd_iconst C dX0_payEach_43 ?_
          obtain ⟨o10, hF⟩ := hF
          refine zgoi (zrunV (As := [.int (zI (a)), .int (zI (k)), .int (zI (2))]) (rest := [.int (zI (X2 (i + 5) (((a) * 3 + (k)) * 3 + ((1 : Int))))), .int (zI (X2 (i + 5) (((a) * 3 + (k)) * 3 + ((0 : Int))))), .ref (bs + (j))]) C hE hH hS hl.1 (c_X0_payPart (l := l) hC (a) ha (k) hk (2) (by decide) o10) k_RX0_41 ⟨Nat.le_of_ble_eq_true rfl, Nat.le_of_ble_eq_true rfl⟩ (zBlocks_n0 hC) (zBlocks_k0 hC) rfl rfl rfl (Nat.le_of_ble_eq_true rfl) dX0_payEach_44 ⟨Nat.zero_le _, Nat.zero_le _⟩) hS (fun rq Xq Yq Rq H locs hrq hq hH hS => ?_)
          obtain ⟨h91, h92⟩ := hq
          have h93 : Xq = X2 := congrArg (fun z => z.1) h92
          have h94 : Yq = Y := congrArg (fun z => z.2.1) h92
          have h95 : Rq = R := congrArg (fun z => z.2.2) h92
          rw [h93, h94, h95] at hH
          subst h91
          have hr11 := hrq
          have hF := hF hr11
          refine zd_iconst C dX0_payEach_47 ?_
          obtain ⟨o12, hF⟩ := hF
          refine zgoi (zrunV (As := [.int (zI (X2 (i + 5) (((a) * 3 + (k)) * 3 + ((0 : Int))))), .int (zI (X2 (i + 5) (((a) * 3 + (k)) * 3 + ((1 : Int))))), .int (zI (X2 (i + 5) (((a) * 3 + (k)) * 3 + ((2 : Int))))), .int (zI (0))]) (rest := []) C hE hH hS hl.1 (c_X5_pay (l := l) hD (X2 (i + 5) (((a) * 3 + (k)) * 3 + ((0 : Int)))) hr7 (X2 (i + 5) (((a) * 3 + (k)) * 3 + ((1 : Int)))) hr9 (X2 (i + 5) (((a) * 3 + (k)) * 3 + ((2 : Int)))) hr11 (0) (by decide) o12) k_RX0_45 ⟨Nat.le_of_ble_eq_true rfl, Nat.le_of_ble_eq_true rfl⟩ (zLedger_n0 hD) (zLedger_k0 hD) rfl rfl rfl (Nat.le_of_ble_eq_true rfl) dX0_payEach_48 ⟨Nat.zero_le _, Nat.zero_le _⟩) hS (fun rq X13 Yq Rq H locs hrq hq hH hS => ?_)
          obtain ⟨h9Y, h9R, hq⟩ := hq
          dsimp only at h9Y h9R
          rw [h9Y, h9R] at hH
          obtain ⟨r14, h91, hq⟩ := hq
          subst h91
          have hF := hF r14 X13 hH.2.2.1 hq
          refine zd_ifB_eq C 57 dX0_payEach_51 (by decide) (fun c15 => ?_) (fun c15 => ?_)
          · have hF := hF.1 c15
            refine zd_iinc (k := 1) (lv' := [(4, .int (zI (k + 1))), (3, .int (zI (dn))), (0, .ref (bs + (i))), (1, .int (zI (a))), (2, .ref (bs + (j)))]) C hl rfl dX0_payEach_57 (by decide) rfl (fun ls hl => ?_)
            refine lv_goto (tgt := 5) C.1 C.2.1 dX0_payEach_60 (by decide) ?_
            obtain ⟨o16, hF⟩ := hF
            exact ih1 (dn) (k + 1) X13 hdn o16 hF.1 (Nat.lt_of_lt_of_le hF.2 (Nat.le_of_lt_succ hmu1)) _ _ _ hH hS (lv_sub hl [1, 0, 2, 3, 4] rfl)
          · have hF := hF.2 c15
            refine zd_iinc (k := 0) (lv' := [(3, .int (zI (dn + 1))), (4, .int (zI (k))), (0, .ref (bs + (i))), (1, .int (zI (a))), (2, .ref (bs + (j)))]) C hl rfl dX0_payEach_54 (by decide) rfl (fun ls hl => ?_)
            refine zd_iinc (k := 1) (lv' := [(4, .int (zI (k + 1))), (3, .int (zI (dn + 1))), (0, .ref (bs + (i))), (1, .int (zI (a))), (2, .ref (bs + (j)))]) C hl rfl dX0_payEach_57 (by decide) rfl (fun ls hl => ?_)
            refine lv_goto (tgt := 5) C.1 C.2.1 dX0_payEach_60 (by decide) ?_
            obtain ⟨o17, hF⟩ := hF
            obtain ⟨o18, hF⟩ := hF
            exact ih1 (dn + 1) (k + 1) X13 o17 o18 hF.1 (Nat.lt_of_lt_of_le hF.2 (Nat.le_of_lt_succ hmu1)) _ _ _ hH hS (lv_sub hl [1, 0, 2, 3, 4] rfl)
  exact L1 (((3 - ((0 : Int))).toNat) + 1) ((0 : Int)) ((0 : Int)) X (by decide) (by decide) hI1 (Nat.lt_succ_self _) _ _ _ hH hS (lv_sub hl [1, 0, 2, 3, 4] rfl)
theorem v_X0_payEach {X Y : Nat → Int → Int} {R : Nat → Int → Option Nat} {i j : Nat} (a : Int) (ha : rI a) (hp : (j + 1 < i ∨ i + 5 < j) ∧ (0 ≤ a ∧ a < 15) ∧ (∀ y : Int, 0 ≤ y → y < 135 → 0 ≤ X (i + 5) y ∧ X (i + 5) y ≤ 99) ∧ ∀ y : Int, 0 ≤ y → y < 6 → 0 ≤ X (j + 1) y ∧ X (j + 1) y ≤ 999999000) : F_X0_payEach i j X Y R a := by
  unfold F_X0_payEach
  intro hX hY
  obtain ⟨hij, hk, hm, hl⟩ := hp
  refine ⟨?_, ?_⟩
  · exact ⟨0, rfl, by decide, fun g => absurd g (by decide), rfl, rfl⟩
  intro dn k X2
  intro _
  intro _
  intro rX2
  intro h1
  obtain ⟨q, hq, q3, q4, h2a, hd⟩ := h1
  subst hq
  have o2 : ∀ z, z ≠ j + 1 → X2 z = X z := fun z hz => by rw [h2a]; exact pyW_o q z hz
  have bb := pyW_b (i := i) (j := j) hk hm hl q q3
  rw [← h2a, ← hd] at bb
  rw [o2 (i + 4) (by omega)]
  refine ⟨?_, ?_⟩
  · exact hk
  refine ⟨?_, ?_⟩
  · intro c1
    exact ⟨q, q3, by omega, h2a, hd⟩
  intro c2
  refine ⟨?_, ?_⟩
  · intro c3
    exact ⟨q, q3, by omega, h2a, hd⟩
  intro c4
  refine ⟨?_, ?_⟩
  · exact ⟨hk, ⟨by omega, by omega⟩, by decide, by decide⟩
  intro _
  refine ⟨?_, ?_⟩
  · exact ⟨hk, ⟨by omega, by omega⟩, by decide, by decide⟩
  intro _
  refine ⟨?_, ?_⟩
  · exact ⟨hk, ⟨by omega, by omega⟩, by decide, by decide⟩
  intro _
  refine ⟨?_, ?_⟩
  · rw [o2 (i + 5) (by omega)]
    refine ⟨hm _ (by omega) (by omega), by decide, fun y y0 y1 => ?_⟩
    have := bb.1 y y0 y1
    exact ⟨by omega, by omega⟩
  intro r14
  intro X13
  intro rX13
  intro h2
  rw [o2 (i + 5) (by omega)] at h2
  refine ⟨?_, ?_⟩
  · intro c5
    refine ⟨?_, ?_⟩
    · first | omega | exact ⟨by omega, by omega⟩ | decide | assumption | exact ⟨by omega, by omega, by omega⟩ | exact ⟨by decide, by decide⟩
    refine ⟨?_, ?_⟩
    · have st : pyW X i j a (q + 1) = if cPk X2 j (X (i + 5) ((a * 3 + q) * 3 + 0)) (X (i + 5) ((a * 3 + q) * 3 + 1)) (X (i + 5) ((a * 3 + q) * 3 + 2)) 0 = true then (cPa X2 j (X (i + 5) ((a * 3 + q) * 3 + 0)) (X (i + 5) ((a * 3 + q) * 3 + 1)) (X (i + 5) ((a * 3 + q) * 3 + 2)) 0, dn + 1) else pyW X i j a q := by
        rw [h2a, hd]
        rfl
      rw [← h2.1, c5, if_neg (by decide)] at st
      exact ⟨q + 1, by omega, by omega, fun _ => by omega, by rw [h2.2.1 c5, st]; exact h2a, by rw [st]; exact hd⟩
    first | omega | exact ⟨by omega, by omega⟩ | decide | assumption | exact ⟨by omega, by omega, by omega⟩ | exact ⟨by decide, by decide⟩
  intro c6
  refine ⟨?_, ?_⟩
  · exact ⟨by omega, by omega⟩
  refine ⟨?_, ?_⟩
  · first | omega | exact ⟨by omega, by omega⟩ | decide | assumption | exact ⟨by omega, by omega, by omega⟩ | exact ⟨by decide, by decide⟩
  refine ⟨?_, ?_⟩
  · have st : pyW X i j a (q + 1) = if cPk X2 j (X (i + 5) ((a * 3 + q) * 3 + 0)) (X (i + 5) ((a * 3 + q) * 3 + 1)) (X (i + 5) ((a * 3 + q) * 3 + 2)) 0 = true then (cPa X2 j (X (i + 5) ((a * 3 + q) * 3 + 0)) (X (i + 5) ((a * 3 + q) * 3 + 1)) (X (i + 5) ((a * 3 + q) * 3 + 2)) 0, dn + 1) else pyW X i j a q := by
      rw [h2a, hd]
      rfl
    rw [← h2.1, c6, if_pos rfl] at st
    exact ⟨q + 1, by omega, by omega, fun _ => by omega, by rw [h2.2.2 c6, st], by rw [st]⟩
  first | omega | exact ⟨by omega, by omega⟩ | decide | assumption | exact ⟨by omega, by omega, by omega⟩ | exact ⟨by decide, by decide⟩
theorem c_X0_payEach {l : Launch} {D : va_G} {cy : Nat → ClassId} {bs N : Nat} {sa : Nat → Nat} {kd len : Nat → Nat} {X Y : Nat → Int → Int} {R : Nat → Int → Option Nat} {i j : Nat} (hC : zBlocks N kd len R i) (hD : zLedger N kd len R j) (a : Int) (ha : rI a) (hp : (j + 1 < i ∨ i + 5 < j) ∧ (0 ≤ a ∧ a < 15) ∧ (∀ y : Int, 0 ≤ y → y < 135 → 0 ≤ X (i + 5) y ∧ X (i + 5) y ≤ 99) ∧ ∀ y : Int, 0 ≤ y → y < 6 → 0 ≤ X (j + 1) y ∧ X (j + 1) y ≤ 999999000) : Met l yX0_payEach (.code yX0_payEach cX0_payEach 5 (some .int) :: zTB) (zRm 2 45) (zPc D cy bs sa N kd len X Y R [.ref (bs + (i)), .int (zI (a)), .ref (bs + (j))]) (zQi D cy bs N kd len (fun r st => st.2.1 = Y ∧ st.2.2 = R ∧ (∃ q : Nat, q ≤ 3 ∧ (q : Int) = max 0 (min 3 (X (i + 4) (a))) ∧ (st.1) = (pyW X i j (a) q).1 ∧ r = (pyW X i j (a) q).2))) 0 0 (zA bs) := w_X0_payEach hC hD a ha (v_X0_payEach a ha hp)
