/-! FILLING -/
def fbI (fv : Nat → Nat → Int) (n : Nat) : Nat → Int × Nat × Nat → Int × Nat × Nat
  | 0, s => s
  | m + 1, s => if (fbI fv n m s).1 < fv m n then (fv m n, n, m) else fbI fv n m s
def fbO (fv : Nat → Nat → Int) : Nat → Int × Nat × Nat
  | 0 => (-1, 0, 0)
  | n + 1 => fbI fv n (6 ^ n) (fbO fv n)
def pv9 (X X1 : Nat → Int → Int) (i : Nat) : Prop := (∀ z, z ≠ i → z ≠ i + 19 → z ≠ i + 20 → X1 z = X z) ∧ ∀ s, s ≠ 51 → s ≠ 52 → X1 i s = X i s
def fbS (most : Int) (X : Nat → Int → Int) (i : Nat) (s : Int × Nat × Nat) : Prop := most = s.1 ∧ (s.1 ≠ -1 → X i 51 = s.2.1 ∧ X i 52 = s.2.2)
theorem pv_q {X X1 : Nat → Int → Int} {i : Nat} (h : pv9 X X1 i) : (oPq X i → oPq X1 i) ∧ (∀ L m n, rFv X1 i L m n = rFv X i L m n) ∧ X1 i 26 = X i 26 := by
  have h1 := h.1 (i + 10) (by omega) (by omega) (by omega)
  have h2 := h.2 48 (by decide) (by decide)
  have h3 := h.2 26 (by decide) (by decide)
  have e1 : mQn X1 i = mQn X i := by
    unfold mQn
    rw [h1, h2]
  have e2 : ∀ k w, mQf X1 i k w = mQf X i k w := fun k w => by
    unfold mQf
    rw [h1, h2]
  refine ⟨fun q => ?_, fun L m n => ?_, h3⟩
  · unfold oPq qF
    simp only [e1, e2]
    refine ⟨?_, q.2⟩
    show 0 ≤ X1 i 48 ∧ X1 i 48 ≤ 1
    rw [h2]
    exact q.1
  · unfold rFv qF
    simp only [e1, e2, h3]
theorem p6 : ∀ n : Nat, n ≤ 4 → 6 ^ n ≤ 1296 ∧ (n ≤ 3 → 6 ^ n ≤ 216) := by decide
abbrev cX11_fillBest : ByteArray := prog_13_method_90_code
def yX11_fillBest : MethodName := ⟨RX11, "fillBest", "(I)I"⟩
theorem dX11_fillBest_0 : decode cX11_fillBest 0 = .ok (.iconst (-1), 1) := by decide +kernel
theorem dX11_fillBest_1 : decode cX11_fillBest 1 = .ok (.istore_n 2, 1) := by decide +kernel
theorem dX11_fillBest_2 : decode cX11_fillBest 2 = .ok (.iconst 1, 1) := by decide +kernel
theorem dX11_fillBest_3 : decode cX11_fillBest 3 = .ok (.istore_n 3, 1) := by decide +kernel
theorem dX11_fillBest_4 : decode cX11_fillBest 4 = .ok (.iconst 0, 1) := by decide +kernel
theorem dX11_fillBest_5 : decode cX11_fillBest 5 = .ok (.istore 4, 2) := by decide +kernel
theorem dX11_fillBest_7 : decode cX11_fillBest 7 = .ok (.iload 4, 2) := by decide +kernel
theorem dX11_fillBest_9 : decode cX11_fillBest 9 = .ok (.iconst 3, 1) := by decide +kernel
theorem dX11_fillBest_10 : decode cX11_fillBest 10 = .ok (.if_icmp .gt 85, 3) := by decide +kernel
theorem dX11_fillBest_13 : decode cX11_fillBest 13 = .ok (.iconst 0, 1) := by decide +kernel
theorem dX11_fillBest_14 : decode cX11_fillBest 14 = .ok (.istore 5, 2) := by decide +kernel
theorem dX11_fillBest_16 : decode cX11_fillBest 16 = .ok (.iload 5, 2) := by decide +kernel
theorem dX11_fillBest_18 : decode cX11_fillBest 18 = .ok (.iload_n 3, 1) := by decide +kernel
theorem dX11_fillBest_19 : decode cX11_fillBest 19 = .ok (.if_icmp .ge 65, 3) := by decide +kernel
theorem dX11_fillBest_22 : decode cX11_fillBest 22 = .ok (.aload_n 0, 1) := by decide +kernel
theorem dX11_fillBest_23 : decode cX11_fillBest 23 = .ok (.iload_n 1, 1) := by decide +kernel
theorem dX11_fillBest_24 : decode cX11_fillBest 24 = .ok (.iload 4, 2) := by decide +kernel
theorem dX11_fillBest_26 : decode cX11_fillBest 26 = .ok (.iload 5, 2) := by decide +kernel
theorem dX11_fillBest_28 : decode cX11_fillBest 28 = .ok (.invokevirtual 447, 3) := by decide +kernel
theorem dX11_fillBest_31 : decode cX11_fillBest 31 = .ok (.istore 6, 2) := by decide +kernel
theorem dX11_fillBest_33 : decode cX11_fillBest 33 = .ok (.aload_n 0, 1) := by decide +kernel
theorem dX11_fillBest_34 : decode cX11_fillBest 34 = .ok (.iload 6, 2) := by decide +kernel
theorem dX11_fillBest_36 : decode cX11_fillBest 36 = .ok (.iload_n 2, 1) := by decide +kernel
theorem dX11_fillBest_37 : decode cX11_fillBest 37 = .ok (.if_icmp .le 8, 3) := by decide +kernel
theorem dX11_fillBest_40 : decode cX11_fillBest 40 = .ok (.iload 4, 2) := by decide +kernel
theorem dX11_fillBest_42 : decode cX11_fillBest 42 = .ok (.goto 7, 3) := by decide +kernel
theorem dX11_fillBest_45 : decode cX11_fillBest 45 = .ok (.aload_n 0, 1) := by decide +kernel
theorem dX11_fillBest_46 : decode cX11_fillBest 46 = .ok (.getfield 451, 3) := by decide +kernel
theorem dX11_fillBest_49 : decode cX11_fillBest 49 = .ok (.putfield 451, 3) := by decide +kernel
theorem dX11_fillBest_52 : decode cX11_fillBest 52 = .ok (.aload_n 0, 1) := by decide +kernel
theorem dX11_fillBest_53 : decode cX11_fillBest 53 = .ok (.iload 6, 2) := by decide +kernel
theorem dX11_fillBest_55 : decode cX11_fillBest 55 = .ok (.iload_n 2, 1) := by decide +kernel
theorem dX11_fillBest_56 : decode cX11_fillBest 56 = .ok (.if_icmp .le 8, 3) := by decide +kernel
theorem dX11_fillBest_59 : decode cX11_fillBest 59 = .ok (.iload 5, 2) := by decide +kernel
theorem dX11_fillBest_61 : decode cX11_fillBest 61 = .ok (.goto 7, 3) := by decide +kernel
theorem dX11_fillBest_64 : decode cX11_fillBest 64 = .ok (.aload_n 0, 1) := by decide +kernel
theorem dX11_fillBest_65 : decode cX11_fillBest 65 = .ok (.getfield 454, 3) := by decide +kernel
theorem dX11_fillBest_68 : decode cX11_fillBest 68 = .ok (.putfield 454, 3) := by decide +kernel
theorem dX11_fillBest_71 : decode cX11_fillBest 71 = .ok (.iload_n 2, 1) := by decide +kernel
theorem dX11_fillBest_72 : decode cX11_fillBest 72 = .ok (.iload 6, 2) := by decide +kernel
theorem dX11_fillBest_74 : decode cX11_fillBest 74 = .ok (.invokestatic 277, 3) := by decide +kernel
theorem dX11_fillBest_77 : decode cX11_fillBest 77 = .ok (.istore_n 2, 1) := by decide +kernel
theorem dX11_fillBest_78 : decode cX11_fillBest 78 = .ok (.iinc 5 1, 3) := by decide +kernel
theorem dX11_fillBest_81 : decode cX11_fillBest 81 = .ok (.goto (-65), 3) := by decide +kernel
theorem dX11_fillBest_84 : decode cX11_fillBest 84 = .ok (.iload_n 3, 1) := by decide +kernel
theorem dX11_fillBest_85 : decode cX11_fillBest 85 = .ok (.bipush 6, 2) := by decide +kernel
theorem dX11_fillBest_87 : decode cX11_fillBest 87 = .ok (.imul, 1) := by decide +kernel
theorem dX11_fillBest_88 : decode cX11_fillBest 88 = .ok (.istore_n 3, 1) := by decide +kernel
theorem dX11_fillBest_89 : decode cX11_fillBest 89 = .ok (.iinc 4 1, 3) := by decide +kernel
theorem dX11_fillBest_92 : decode cX11_fillBest 92 = .ok (.goto (-85), 3) := by decide +kernel
theorem dX11_fillBest_95 : decode cX11_fillBest 95 = .ok (.iload_n 2, 1) := by decide +kernel
theorem dX11_fillBest_96 : decode cX11_fillBest 96 = .ok (.ireturn, 1) := by decide +kernel
theorem q_1828 : Cond.methodLink RX11 447 yX11_feesOf ∈ zTB := zmem 1828 (by decide +kernel) rfl
theorem q_1830 : Cond.instanceMethod yX11_feesOf ∈ zTB := zmem 1830 (by decide +kernel) rfl
theorem q_98 : Cond.selects RX11 yX11_feesOf yX11_feesOf ∈ zTB := zmem 98 (by decide +kernel) rfl
theorem q_1831 : Cond.code yX11_feesOf cX11_feesOf 9 (some .int) ∈ zTB := zmem 1831 (by decide +kernel) rfl
theorem k_RX11_447 : zLv RX11 447 RX11 yX11_feesOf cX11_feesOf 9 (some .int) 3 := ⟨⟨q_1828, q_1830, q_98, q_140, q_1831⟩, rfl, ⟨by decide, by decide⟩, by decide +kernel⟩
theorem q_1338 : Cond.fieldLink RX11 451 RX11 "bestLong" "I" ∈ zTB := zmem 1338 (by decide +kernel) rfl
theorem q_1339 : Cond.fieldLink RX11 454 RX11 "bestNumber" "I" ∈ zTB := zmem 1339 (by decide +kernel) rfl
def F_X11_fillBest (i : Nat) (X Y : Nat → Int → Int) (R : Nat → Int → Option Nat) (a : Int) : Prop := (∀ i j, rI (X i j)) → (∀ i j, rL (Y i j)) → (∃ p : Nat, ((0 : Int)) = (p : Int) ∧ p ≤ 4 ∧ ((1 : Int)) = ((6 ^ p : Nat) : Int) ∧ pv9 X X i ∧ fbS ((-1 : Int)) X i (fbO (fun m n => rFv X i (rL9 X i (a)) m n) p)) ∧ (∀ (most : Int) (al : Int) (n : Int) (X2 : Nat → Int → Int), rI most → rI al → rI n → (∀ i j, rI (X2 i j)) → (∃ p : Nat, (n) = (p : Int) ∧ p ≤ 4 ∧ (al) = ((6 ^ p : Nat) : Int) ∧ pv9 X X2 i ∧ fbS (most) X2 i (fbO (fun m n => rFv X i (rL9 X i (a)) m n) p)) → (((3 < n) → (pv9 X (X2) i ∧ fbS (most) (X2) i (fbO (fun m n => rFv X i (rL9 X i (a)) m n) 4))) ∧ ((¬ (3 < n)) → ((∃ q : Nat, ((0 : Int)) = (q : Int) ∧ q ≤ 6 ^ n.toNat ∧ pv9 X X2 i ∧ fbS (most) X2 i (fbI (fun m n => rFv X i (rL9 X i (a)) m n) n.toNat q (fbO (fun m n => rFv X i (rL9 X i (a)) m n) n.toNat))) ∧ (∀ (most : Int) (nu : Int) (X5 : Nat → Int → Int), rI most → rI nu → (∀ i j, rI (X5 i j)) → (∃ q : Nat, (nu) = (q : Int) ∧ q ≤ 6 ^ n.toNat ∧ pv9 X X5 i ∧ fbS (most) X5 i (fbI (fun m n => rFv X i (rL9 X i (a)) m n) n.toNat q (fbO (fun m n => rFv X i (rL9 X i (a)) m n) n.toNat))) → (((al ≤ nu) → ((rI (al * 6)) ∧ (rI (n + 1)) ∧ (∃ p : Nat, (n + 1) = (p : Int) ∧ p ≤ 4 ∧ (al * 6) = ((6 ^ p : Nat) : Int) ∧ pv9 X X5 i ∧ fbS (most) X5 i (fbO (fun m n => rFv X i (rL9 X i (a)) m n) p)) ∧ (((4 - (n + 1)).toNat) < ((4 - (n)).toNat)))) ∧ ((¬ (al ≤ nu)) → (((0 ≤ a ∧ a < 15) ∧ (0 ≤ n ∧ n ≤ 3) ∧ (0 ≤ nu ∧ nu < 1000) ∧ (0 ≤ X5 i 26 ∧ X5 i 26 ≤ 6) ∧ oPq X5 i ∧ ∀ y, 0 ≤ y → y < 6 → 0 ≤ X5 (i + 16) (6 * a + y) ∧ X5 (i + 16) (6 * a + y) ≤ 100000) ∧ (∀ r11 : Int, rI r11 → ∀ X10 : Nat → Int → Int, (∀ i j, rI (X10 i j)) → (pu9 X5 (X10) i ∧ (-1 ≤ r11 ∧ r11 ≤ 27) ∧ ∀ L, eq6 (fun y => X5 (i + 16) (6 * a + y)) L → r11 = rFv X5 i L (nu).toNat (n).toNat) → (((r11 ≤ most) → (∀ X13 : Nat → Int → Int, X13 = zU X10 (i) 51 (X10 (i) 51) → (∀ i j, rI (X13 i j)) → (((r11 ≤ most) → (∀ X15 : Nat → Int → Int, X15 = zU X13 (i) 52 (X13 (i) 52) → (∀ i j, rI (X15 i j)) → (rI (max (most) (r11)) → ((rI (nu + 1)) ∧ (∃ q : Nat, (nu + 1) = (q : Int) ∧ q ≤ 6 ^ n.toNat ∧ pv9 X X15 i ∧ fbS (max (most) (r11)) X15 i (fbI (fun m n => rFv X i (rL9 X i (a)) m n) n.toNat q (fbO (fun m n => rFv X i (rL9 X i (a)) m n) n.toNat))) ∧ (((al - (nu + 1)).toNat) < ((al - (nu)).toNat)))))) ∧ ((¬ (r11 ≤ most)) → (∀ X18 : Nat → Int → Int, X18 = zU X13 (i) 52 (nu) → (∀ i j, rI (X18 i j)) → (rI (max (most) (r11)) → ((rI (nu + 1)) ∧ (∃ q : Nat, (nu + 1) = (q : Int) ∧ q ≤ 6 ^ n.toNat ∧ pv9 X X18 i ∧ fbS (max (most) (r11)) X18 i (fbI (fun m n => rFv X i (rL9 X i (a)) m n) n.toNat q (fbO (fun m n => rFv X i (rL9 X i (a)) m n) n.toNat))) ∧ (((al - (nu + 1)).toNat) < ((al - (nu)).toNat))))))))) ∧ ((¬ (r11 ≤ most)) → (∀ X21 : Nat → Int → Int, X21 = zU X10 (i) 51 (n) → (∀ i j, rI (X21 i j)) → (((r11 ≤ most) → (∀ X23 : Nat → Int → Int, X23 = zU X21 (i) 52 (X21 (i) 52) → (∀ i j, rI (X23 i j)) → (rI (max (most) (r11)) → ((rI (nu + 1)) ∧ (∃ q : Nat, (nu + 1) = (q : Int) ∧ q ≤ 6 ^ n.toNat ∧ pv9 X X23 i ∧ fbS (max (most) (r11)) X23 i (fbI (fun m n => rFv X i (rL9 X i (a)) m n) n.toNat q (fbO (fun m n => rFv X i (rL9 X i (a)) m n) n.toNat))) ∧ (((al - (nu + 1)).toNat) < ((al - (nu)).toNat)))))) ∧ ((¬ (r11 ≤ most)) → (∀ X26 : Nat → Int → Int, X26 = zU X21 (i) 52 (nu) → (∀ i j, rI (X26 i j)) → (rI (max (most) (r11)) → ((rI (nu + 1)) ∧ (∃ q : Nat, (nu + 1) = (q : Int) ∧ q ≤ 6 ^ n.toNat ∧ pv9 X X26 i ∧ fbS (max (most) (r11)) X26 i (fbI (fun m n => rFv X i (rL9 X i (a)) m n) n.toNat q (fbO (fun m n => rFv X i (rL9 X i (a)) m n) n.toNat))) ∧ (((al - (nu + 1)).toNat) < ((al - (nu)).toNat)))))))))))))))))))
set_option maxHeartbeats 4000000 in
set_option maxRecDepth 100000 in
theorem w_X11_fillBest {l : Launch} {D : va_G} {cy : Nat → ClassId} {bs N : Nat} {sa : Nat → Nat} {kd len : Nat → Nat} {X Y : Nat → Int → Int} {R : Nat → Int → Option Nat} {i : Nat} (hM : zM N kd len R i) (a : Int) (ha : rI a) (hF : F_X11_fillBest i X Y R a) : Met l yX11_fillBest (.code yX11_fillBest cX11_fillBest 7 (some .int) :: zTB) (zRm 4 95) (zPc D cy bs sa N kd len X Y R [.ref (bs + (i)), .int (zI (a))]) (zQi D cy bs N kd len (fun r st => st.2.1 = Y ∧ st.2.2 = R ∧ (pv9 X (st.1) i ∧ fbS (r) (st.1) i (fbO (fun m n => rFv X i (rL9 X i (a)) m n) 4)))) 0 0 (zA bs) := by
  refine zstart (by decide) (Nat.le_of_ble_eq_true rfl) ?_
  intro p e s m args below meth c ls C hE hH hr hlk hnm hl hargs
  have hF := hF hH.2.2.1 hH.2.2.2
  have hS : va_S (zA bs) s.heap s.heap [] := va_S.rf
  have hl : lv_has ls 7 [(0, .ref (bs + (i))), (1, .int (zI (a)))] := hl
  refine zd_iconst C dX11_fillBest_0 ?_
  refine lv_istore_n (lv' := [(2, .int (zI ((-1)))), (0, .ref (bs + (i))), (1, .int (zI (a)))]) C.1 C.2.1 dX11_fillBest_1 rfl hl (by decide) rfl (fun ls hl => ?_)
  refine zd_iconst C dX11_fillBest_2 ?_
  refine lv_istore_n (lv' := [(3, .int (zI (1))), (2, .int (zI ((-1)))), (0, .ref (bs + (i))), (1, .int (zI (a)))]) C.1 C.2.1 dX11_fillBest_3 rfl hl (by decide) rfl (fun ls hl => ?_)
  refine zd_iconst C dX11_fillBest_4 ?_
  refine lv_istore (lv' := [(4, .int (zI (0))), (3, .int (zI (1))), (2, .int (zI ((-1)))), (0, .ref (bs + (i))), (1, .int (zI (a)))]) C.1 C.2.1 dX11_fillBest_5 hl (by decide) rfl (fun ls hl => ?_)
  obtain ⟨hI1, hF⟩ := hF
  have L1 : ∀ (fu : Nat) (most : Int) (al : Int) (n : Int) (X2 : Nat → Int → Int), rI most → rI al → rI n → (∃ p : Nat, (n) = (p : Int) ∧ p ≤ 4 ∧ (al) = ((6 ^ p : Nat) : Int) ∧ pv9 X X2 i ∧ fbS (most) X2 i (fbO (fun m n => rFv X i (rL9 X i (a)) m n) p)) → ((4 - (n)).toNat) < fu → ∀ (H : Heap) (locs : List Loc) (ls : Array Slot), zH D cy bs N kd len X2 Y R H → va_S (zA bs) s.heap H locs → lv_has ls 7 [(2, .int (zI (most))), (3, .int (zI (al))), (4, .int (zI (n))), (0, .ref (bs + (i))), (1, .int (zI (a)))] → W p l e (zRm 4 95) s m args below meth c H locs 0 0 (MQ below (zQi D cy bs N kd len (fun r st => st.2.1 = Y ∧ st.2.2 = R ∧ (pv9 X (st.1) i ∧ fbS (r) (st.1) i (fbO (fun m n => rFv X i (rL9 X i (a)) m n) 4)))) args s 0 0 (zA bs)) (F0 m 7 ls []) := by
    intro fu
    induction fu with
    | zero => intro most al n X2 _ _ _ _ hmu; exact absurd hmu (Nat.not_lt_zero _)
    | succ fu ih1 =>
      intro most al n X2 hmost hal hn hI hmu1 H locs ls hH hS hl
      have hF := hF most al n X2 hmost hal hn hH.2.2.1 hI
      refine lv_iload C.1 C.2.1 dX11_fillBest_7 (lv_at hl 2 rfl) ?_
      refine zd_iconst C dX11_fillBest_9 ?_
      refine zd_icmp_gt C hn (by decide) 95 dX11_fillBest_10 (by decide) (fun c3 => ?_) (fun c3 => ?_)
      · have hF := hF.1 c3
        refine lv_iload_n C.1 C.2.1 dX11_fillBest_95 rfl (lv_at hl 0 rfl) ?_
        exact zd_iret C hr hlk hH hS hmost (⟨rfl, rfl, hF⟩) dX11_fillBest_96
      · have hF := hF.2 c3
        refine zd_iconst C dX11_fillBest_13 ?_
        refine lv_istore (lv' := [(5, .int (zI (0))), (2, .int (zI (most))), (3, .int (zI (al))), (4, .int (zI (n))), (0, .ref (bs + (i))), (1, .int (zI (a)))]) C.1 C.2.1 dX11_fillBest_14 hl (by decide) rfl (fun ls hl => ?_)
        obtain ⟨hI4, hF⟩ := hF
        have L4 : ∀ (fu : Nat) (most : Int) (nu : Int) (X5 : Nat → Int → Int), rI most → rI nu → (∃ q : Nat, (nu) = (q : Int) ∧ q ≤ 6 ^ n.toNat ∧ pv9 X X5 i ∧ fbS (most) X5 i (fbI (fun m n => rFv X i (rL9 X i (a)) m n) n.toNat q (fbO (fun m n => rFv X i (rL9 X i (a)) m n) n.toNat))) → ((al - (nu)).toNat) < fu → ∀ (H : Heap) (locs : List Loc) (ls : Array Slot), zH D cy bs N kd len X5 Y R H → va_S (zA bs) s.heap H locs → lv_has ls 7 [(2, .int (zI (most))), (5, .int (zI (nu))), (3, .int (zI (al))), (4, .int (zI (n))), (0, .ref (bs + (i))), (1, .int (zI (a)))] → W p l e (zRm 4 95) s m args below meth c H locs 0 0 (MQ below (zQi D cy bs N kd len (fun r st => st.2.1 = Y ∧ st.2.2 = R ∧ (pv9 X (st.1) i ∧ fbS (r) (st.1) i (fbO (fun m n => rFv X i (rL9 X i (a)) m n) 4)))) args s 0 0 (zA bs)) (F0 m 16 ls []) := by
          intro fu
          induction fu with
          | zero => intro most nu X5 _ _ _ hmu; exact absurd hmu (Nat.not_lt_zero _)
          | succ fu ih4 =>
            intro most nu X5 hmost hnu hI hmu4 H locs ls hH hS hl
            have hF := hF most nu X5 hmost hnu hH.2.2.1 hI
            refine lv_iload C.1 C.2.1 dX11_fillBest_16 (lv_at hl 1 rfl) ?_
            refine lv_iload_n C.1 C.2.1 dX11_fillBest_18 rfl (lv_at hl 2 rfl) ?_
            refine zd_icmp_ge C hnu hal 84 dX11_fillBest_19 (by decide) (fun c6 => ?_) (fun c6 => ?_)
            · have hF := hF.1 c6
              refine lv_iload_n C.1 C.2.1 dX11_fillBest_84 rfl (lv_at hl 2 rfl) ?_
              refine zd_bipush C (by decide) dX11_fillBest_85 ?_
              refine zd_imul C dX11_fillBest_87 ?_
              refine lv_istore_n (lv' := [(3, .int (zI (al * 6))), (2, .int (zI (most))), (5, .int (zI (nu))), (4, .int (zI (n))), (0, .ref (bs + (i))), (1, .int (zI (a)))]) C.1 C.2.1 dX11_fillBest_88 rfl hl (by decide) rfl (fun ls hl => ?_)
              refine zd_iinc (k := 3) (lv' := [(4, .int (zI (n + 1))), (3, .int (zI (al * 6))), (2, .int (zI (most))), (5, .int (zI (nu))), (0, .ref (bs + (i))), (1, .int (zI (a)))]) C hl rfl dX11_fillBest_89 (by decide) rfl (fun ls hl => ?_)
              refine lv_goto (tgt := 7) C.1 C.2.1 dX11_fillBest_92 (by decide) ?_
              obtain ⟨o7, hF⟩ := hF
              obtain ⟨o8, hF⟩ := hF
              exact ih1 (most) (al * 6) (n + 1) X5 hmost o7 o8 hF.1 (Nat.lt_of_lt_of_le hF.2 (Nat.le_of_lt_succ hmu1)) _ _ _ hH hS (lv_sub hl [2, 1, 0, 4, 5] rfl)
            · have hF := hF.2 c6
              refine lv_aload_n C.1 C.2.1 dX11_fillBest_22 rfl (lv_at hl 4 rfl) ?_
              refine lv_iload_n C.1 C.2.1 dX11_fillBest_23 rfl (lv_at hl 5 rfl) ?_
              refine lv_iload C.1 C.2.1 dX11_fillBest_24 (lv_at hl 3 rfl) ?_
              refine lv_iload C.1 C.2.1 dX11_fillBest_26 (lv_at hl 1 rfl) ?_
              obtain ⟨o9, hF⟩ := hF
              refine zgoi (zrunV (As := [.int (zI (a)), .int (zI (n)), .int (zI (nu))]) (rest := []) C hE hH hS hl.1 (c_X11_feesOf (l := l) hM (a) ha (n) hn (nu) hnu o9) k_RX11_447 ⟨Nat.le_of_ble_eq_true rfl, Nat.le_of_ble_eq_true rfl⟩ (zM_n0 hM) (zM_k0 hM) rfl rfl rfl (Nat.le_of_ble_eq_true rfl) dX11_fillBest_28 ⟨Nat.zero_le _, Nat.zero_le _⟩) hS (fun r11 X10 Yq Rq H locs hrq hq hH hS => ?_)
              obtain ⟨h9Y, h9R, hq⟩ := hq
              dsimp only at h9Y h9R
              rw [h9Y, h9R] at hH
              have hr11 := hrq
              have hF := hF r11 hrq X10 hH.2.2.1 hq
              refine lv_istore (lv' := [(6, .int (zI (r11))), (2, .int (zI (most))), (5, .int (zI (nu))), (3, .int (zI (al))), (4, .int (zI (n))), (0, .ref (bs + (i))), (1, .int (zI (a)))]) C.1 C.2.1 dX11_fillBest_31 hl (by decide) rfl (fun ls hl => ?_)
              refine lv_aload_n C.1 C.2.1 dX11_fillBest_33 rfl (lv_at hl 5 rfl) ?_
              refine lv_iload C.1 C.2.1 dX11_fillBest_34 (lv_at hl 0 rfl) ?_
              refine lv_iload_n C.1 C.2.1 dX11_fillBest_36 rfl (lv_at hl 1 rfl) ?_
              refine zd_icmp_le C hr11 hmost 45 dX11_fillBest_37 (by decide) (fun c12 => ?_) (fun c12 => ?_)
              · have hF := hF.1 c12
                refine lv_aload_n C.1 C.2.1 dX11_fillBest_45 rfl (lv_at hl 5 rfl) ?_
                refine zg11_51 C hH (zM_n0 hM) (zM_k0 hM) q_1338 dX11_fillBest_46 ?_
                refine zp11_51 C hH hS (zM_n0 hM) (zM_k0 hM) q_1338 (hH.2.2.1 _ _) dX11_fillBest_49 (fun H locs hH hS => ?_)
                obtain ⟨X13, eX13⟩ : ∃ z, z = zU X10 (i) 51 (X10 (i) 51) := ⟨_, rfl⟩
                rw [← eX13] at hH
                have hF := hF X13 eX13 hH.2.2.1
                refine lv_aload_n C.1 C.2.1 dX11_fillBest_52 rfl (lv_at hl 5 rfl) ?_
                refine lv_iload C.1 C.2.1 dX11_fillBest_53 (lv_at hl 0 rfl) ?_
                refine lv_iload_n C.1 C.2.1 dX11_fillBest_55 rfl (lv_at hl 1 rfl) ?_
                refine zd_icmp_le C hr11 hmost 64 dX11_fillBest_56 (by decide) (fun c14 => ?_) (fun c14 => ?_)
                · have hF := hF.1 c14
                  refine lv_aload_n C.1 C.2.1 dX11_fillBest_64 rfl (lv_at hl 5 rfl) ?_
                  refine zg11_52 C hH (zM_n0 hM) (zM_k0 hM) q_1339 dX11_fillBest_65 ?_
                  refine zp11_52 C hH hS (zM_n0 hM) (zM_k0 hM) q_1339 (hH.2.2.1 _ _) dX11_fillBest_68 (fun H locs hH hS => ?_)
                  obtain ⟨X15, eX15⟩ : ∃ z, z = zU X13 (i) 52 (X13 (i) 52) := ⟨_, rfl⟩
                  rw [← eX15] at hH
                  have hF := hF X15 eX15 hH.2.2.1
                  refine lv_iload_n C.1 C.2.1 dX11_fillBest_71 rfl (lv_at hl 1 rfl) ?_
                  refine lv_iload C.1 C.2.1 dX11_fillBest_72 (lv_at hl 0 rfl) ?_
                  refine zgoi (zrunS (As := [.int (zI (most)), .int (zI (r11))]) (rest := []) C hE hH hS hl.1 (c_X11_greater (l := l)  (most) hmost (r11) hr11) k_RX11_277 ⟨Nat.le_of_ble_eq_true rfl, Nat.le_of_ble_eq_true rfl⟩ rfl (Nat.le_of_ble_eq_true rfl) dX11_fillBest_74 ⟨Nat.zero_le _, Nat.zero_le _⟩) hS (fun rq Xq Yq Rq H locs hrq hq hH hS => ?_)
                  obtain ⟨h91, h92⟩ := hq
                  have h93 : Xq = X15 := congrArg (fun z => z.1) h92
                  have h94 : Yq = Y := congrArg (fun z => z.2.1) h92
                  have h95 : Rq = R := congrArg (fun z => z.2.2) h92
                  rw [h93, h94, h95] at hH
                  subst h91
                  have hr16 := hrq
                  have hF := hF hr16
                  refine lv_istore_n (lv' := [(2, .int (zI (max (most) (r11)))), (6, .int (zI (r11))), (5, .int (zI (nu))), (3, .int (zI (al))), (4, .int (zI (n))), (0, .ref (bs + (i))), (1, .int (zI (a)))]) C.1 C.2.1 dX11_fillBest_77 rfl hl (by decide) rfl (fun ls hl => ?_)
                  refine zd_iinc (k := 2) (lv' := [(5, .int (zI (nu + 1))), (2, .int (zI (max (most) (r11)))), (6, .int (zI (r11))), (3, .int (zI (al))), (4, .int (zI (n))), (0, .ref (bs + (i))), (1, .int (zI (a)))]) C hl rfl dX11_fillBest_78 (by decide) rfl (fun ls hl => ?_)
                  refine lv_goto (tgt := 16) C.1 C.2.1 dX11_fillBest_81 (by decide) ?_
                  obtain ⟨o17, hF⟩ := hF
                  exact ih4 (max (most) (r11)) (nu + 1) X15 hr16 o17 hF.1 (Nat.lt_of_lt_of_le hF.2 (Nat.le_of_lt_succ hmu4)) _ _ _ hH hS (lv_sub hl [1, 0, 3, 4, 5, 6] rfl)
                · have hF := hF.2 c14
                  refine lv_iload C.1 C.2.1 dX11_fillBest_59 (lv_at hl 2 rfl) ?_
                  refine lv_goto (tgt := 68) C.1 C.2.1 dX11_fillBest_61 (by decide) ?_
                  refine zp11_52 C hH hS (zM_n0 hM) (zM_k0 hM) q_1339 hnu dX11_fillBest_68 (fun H locs hH hS => ?_)
                  obtain ⟨X18, eX18⟩ : ∃ z, z = zU X13 (i) 52 (nu) := ⟨_, rfl⟩
                  rw [← eX18] at hH
                  have hF := hF X18 eX18 hH.2.2.1
                  refine lv_iload_n C.1 C.2.1 dX11_fillBest_71 rfl (lv_at hl 1 rfl) ?_
                  refine lv_iload C.1 C.2.1 dX11_fillBest_72 (lv_at hl 0 rfl) ?_
                  refine zgoi (zrunS (As := [.int (zI (most)), .int (zI (r11))]) (rest := []) C hE hH hS hl.1 (c_X11_greater (l := l)  (most) hmost (r11) hr11) k_RX11_277 ⟨Nat.le_of_ble_eq_true rfl, Nat.le_of_ble_eq_true rfl⟩ rfl (Nat.le_of_ble_eq_true rfl) dX11_fillBest_74 ⟨Nat.zero_le _, Nat.zero_le _⟩) hS (fun rq Xq Yq Rq H locs hrq hq hH hS => ?_)
                  obtain ⟨h91, h92⟩ := hq
                  have h93 : Xq = X18 := congrArg (fun z => z.1) h92
                  have h94 : Yq = Y := congrArg (fun z => z.2.1) h92
                  have h95 : Rq = R := congrArg (fun z => z.2.2) h92
                  rw [h93, h94, h95] at hH
                  subst h91
                  have hr19 := hrq
                  have hF := hF hr19
                  refine lv_istore_n (lv' := [(2, .int (zI (max (most) (r11)))), (6, .int (zI (r11))), (5, .int (zI (nu))), (3, .int (zI (al))), (4, .int (zI (n))), (0, .ref (bs + (i))), (1, .int (zI (a)))]) C.1 C.2.1 dX11_fillBest_77 rfl hl (by decide) rfl (fun ls hl => ?_)
                  refine zd_iinc (k := 2) (lv' := [(5, .int (zI (nu + 1))), (2, .int (zI (max (most) (r11)))), (6, .int (zI (r11))), (3, .int (zI (al))), (4, .int (zI (n))), (0, .ref (bs + (i))), (1, .int (zI (a)))]) C hl rfl dX11_fillBest_78 (by decide) rfl (fun ls hl => ?_)
                  refine lv_goto (tgt := 16) C.1 C.2.1 dX11_fillBest_81 (by decide) ?_
                  obtain ⟨o20, hF⟩ := hF
                  exact ih4 (max (most) (r11)) (nu + 1) X18 hr19 o20 hF.1 (Nat.lt_of_lt_of_le hF.2 (Nat.le_of_lt_succ hmu4)) _ _ _ hH hS (lv_sub hl [1, 0, 3, 4, 5, 6] rfl)
              · have hF := hF.2 c12
                refine lv_iload C.1 C.2.1 dX11_fillBest_40 (lv_at hl 4 rfl) ?_
                refine lv_goto (tgt := 49) C.1 C.2.1 dX11_fillBest_42 (by decide) ?_
                refine zp11_51 C hH hS (zM_n0 hM) (zM_k0 hM) q_1338 hn dX11_fillBest_49 (fun H locs hH hS => ?_)
                obtain ⟨X21, eX21⟩ : ∃ z, z = zU X10 (i) 51 (n) := ⟨_, rfl⟩
                rw [← eX21] at hH
                have hF := hF X21 eX21 hH.2.2.1
                refine lv_aload_n C.1 C.2.1 dX11_fillBest_52 rfl (lv_at hl 5 rfl) ?_
                refine lv_iload C.1 C.2.1 dX11_fillBest_53 (lv_at hl 0 rfl) ?_
                refine lv_iload_n C.1 C.2.1 dX11_fillBest_55 rfl (lv_at hl 1 rfl) ?_
                refine zd_icmp_le C hr11 hmost 64 dX11_fillBest_56 (by decide) (fun c22 => ?_) (fun c22 => ?_)
                · have hF := hF.1 c22
                  refine lv_aload_n C.1 C.2.1 dX11_fillBest_64 rfl (lv_at hl 5 rfl) ?_
                  refine zg11_52 C hH (zM_n0 hM) (zM_k0 hM) q_1339 dX11_fillBest_65 ?_
                  refine zp11_52 C hH hS (zM_n0 hM) (zM_k0 hM) q_1339 (hH.2.2.1 _ _) dX11_fillBest_68 (fun H locs hH hS => ?_)
                  obtain ⟨X23, eX23⟩ : ∃ z, z = zU X21 (i) 52 (X21 (i) 52) := ⟨_, rfl⟩
                  rw [← eX23] at hH
                  have hF := hF X23 eX23 hH.2.2.1
                  refine lv_iload_n C.1 C.2.1 dX11_fillBest_71 rfl (lv_at hl 1 rfl) ?_
                  refine lv_iload C.1 C.2.1 dX11_fillBest_72 (lv_at hl 0 rfl) ?_
                  refine zgoi (zrunS (As := [.int (zI (most)), .int (zI (r11))]) (rest := []) C hE hH hS hl.1 (c_X11_greater (l := l)  (most) hmost (r11) hr11) k_RX11_277 ⟨Nat.le_of_ble_eq_true rfl, Nat.le_of_ble_eq_true rfl⟩ rfl (Nat.le_of_ble_eq_true rfl) dX11_fillBest_74 ⟨Nat.zero_le _, Nat.zero_le _⟩) hS (fun rq Xq Yq Rq H locs hrq hq hH hS => ?_)
                  obtain ⟨h91, h92⟩ := hq
                  have h93 : Xq = X23 := congrArg (fun z => z.1) h92
                  have h94 : Yq = Y := congrArg (fun z => z.2.1) h92
                  have h95 : Rq = R := congrArg (fun z => z.2.2) h92
                  rw [h93, h94, h95] at hH
                  subst h91
                  have hr24 := hrq
                  have hF := hF hr24
                  refine lv_istore_n (lv' := [(2, .int (zI (max (most) (r11)))), (6, .int (zI (r11))), (5, .int (zI (nu))), (3, .int (zI (al))), (4, .int (zI (n))), (0, .ref (bs + (i))), (1, .int (zI (a)))]) C.1 C.2.1 dX11_fillBest_77 rfl hl (by decide) rfl (fun ls hl => ?_)
                  refine zd_iinc (k := 2) (lv' := [(5, .int (zI (nu + 1))), (2, .int (zI (max (most) (r11)))), (6, .int (zI (r11))), (3, .int (zI (al))), (4, .int (zI (n))), (0, .ref (bs + (i))), (1, .int (zI (a)))]) C hl rfl dX11_fillBest_78 (by decide) rfl (fun ls hl => ?_)
                  refine lv_goto (tgt := 16) C.1 C.2.1 dX11_fillBest_81 (by decide) ?_
                  obtain ⟨o25, hF⟩ := hF
                  exact ih4 (max (most) (r11)) (nu + 1) X23 hr24 o25 hF.1 (Nat.lt_of_lt_of_le hF.2 (Nat.le_of_lt_succ hmu4)) _ _ _ hH hS (lv_sub hl [1, 0, 3, 4, 5, 6] rfl)
                · have hF := hF.2 c22
                  refine lv_iload C.1 C.2.1 dX11_fillBest_59 (lv_at hl 2 rfl) ?_
                  refine lv_goto (tgt := 68) C.1 C.2.1 dX11_fillBest_61 (by decide) ?_
                  refine zp11_52 C hH hS (zM_n0 hM) (zM_k0 hM) q_1339 hnu dX11_fillBest_68 (fun H locs hH hS => ?_)
                  obtain ⟨X26, eX26⟩ : ∃ z, z = zU X21 (i) 52 (nu) := ⟨_, rfl⟩
                  rw [← eX26] at hH
                  have hF := hF X26 eX26 hH.2.2.1
                  refine lv_iload_n C.1 C.2.1 dX11_fillBest_71 rfl (lv_at hl 1 rfl) ?_
                  refine lv_iload C.1 C.2.1 dX11_fillBest_72 (lv_at hl 0 rfl) ?_
                  refine zgoi (zrunS (As := [.int (zI (most)), .int (zI (r11))]) (rest := []) C hE hH hS hl.1 (c_X11_greater (l := l)  (most) hmost (r11) hr11) k_RX11_277 ⟨Nat.le_of_ble_eq_true rfl, Nat.le_of_ble_eq_true rfl⟩ rfl (Nat.le_of_ble_eq_true rfl) dX11_fillBest_74 ⟨Nat.zero_le _, Nat.zero_le _⟩) hS (fun rq Xq Yq Rq H locs hrq hq hH hS => ?_)
                  obtain ⟨h91, h92⟩ := hq
                  have h93 : Xq = X26 := congrArg (fun z => z.1) h92
                  have h94 : Yq = Y := congrArg (fun z => z.2.1) h92
                  have h95 : Rq = R := congrArg (fun z => z.2.2) h92
                  rw [h93, h94, h95] at hH
                  subst h91
                  have hr27 := hrq
                  have hF := hF hr27
                  refine lv_istore_n (lv' := [(2, .int (zI (max (most) (r11)))), (6, .int (zI (r11))), (5, .int (zI (nu))), (3, .int (zI (al))), (4, .int (zI (n))), (0, .ref (bs + (i))), (1, .int (zI (a)))]) C.1 C.2.1 dX11_fillBest_77 rfl hl (by decide) rfl (fun ls hl => ?_)
                  refine zd_iinc (k := 2) (lv' := [(5, .int (zI (nu + 1))), (2, .int (zI (max (most) (r11)))), (6, .int (zI (r11))), (3, .int (zI (al))), (4, .int (zI (n))), (0, .ref (bs + (i))), (1, .int (zI (a)))]) C hl rfl dX11_fillBest_78 (by decide) rfl (fun ls hl => ?_)
                  refine lv_goto (tgt := 16) C.1 C.2.1 dX11_fillBest_81 (by decide) ?_
                  obtain ⟨o28, hF⟩ := hF
                  exact ih4 (max (most) (r11)) (nu + 1) X26 hr27 o28 hF.1 (Nat.lt_of_lt_of_le hF.2 (Nat.le_of_lt_succ hmu4)) _ _ _ hH hS (lv_sub hl [1, 0, 3, 4, 5, 6] rfl)
        exact L4 (((al - ((0 : Int))).toNat) + 1) (most) ((0 : Int)) X2 hmost (by decide) hI4 (Nat.lt_succ_self _) _ _ _ hH hS (lv_sub hl [1, 0, 2, 3, 4, 5] rfl)
  exact L1 (((4 - ((0 : Int))).toNat) + 1) ((-1 : Int)) ((1 : Int)) ((0 : Int)) X (by decide) (by decide) (by decide) hI1 (Nat.lt_succ_self _) _ _ _ hH hS (lv_sub hl [2, 1, 0, 3, 4] rfl)
theorem v_X11_fillBest {X Y : Nat → Int → Int} {R : Nat → Int → Option Nat} {i : Nat} (a : Int) (ha : rI a) (hp : (0 ≤ a ∧ a < 15) ∧ (0 ≤ X i 26 ∧ X i 26 ≤ 6) ∧ oPq X i ∧ ∀ y, 0 ≤ y → y < 6 → 0 ≤ X (i + 16) (6 * a + y) ∧ X (i + 16) (6 * a + y) ≤ 100000) : F_X11_fillBest i X Y R a := by
  unfold F_X11_fillBest
  intro hX hY
  obtain ⟨ha, h26, hpq, hled⟩ := hp
  have go : ∀ {X1}, pv9 X X1 i → ∀ y, 0 ≤ y → y < 6 → X1 (i + 16) (6 * a + y) = X (i + 16) (6 * a + y) := fun h y _ _ => by rw [h.1 _ (by omega) (by omega) (by omega)]
  obtain ⟨fv, hfv⟩ : ∃ fv, fv = fun m n => rFv X i (rL9 X i a) m n := ⟨_, rfl⟩
  rw [← hfv]
  refine ⟨?_, ?_⟩
  · exact ⟨0, rfl, by decide, rfl, ⟨fun _ _ _ _ => rfl, fun _ _ _ => rfl⟩, rfl, fun h => absurd rfl h⟩
  intro most al n X2
  intro _
  intro _
  intro _
  intro rX2
  intro h1
  obtain ⟨p, hn, hp4, hal, pv, fs⟩ := h1
  subst hn
  simp only [Int.toNat_natCast]
  have b6 := p6 p hp4
  have so : fbO fv (p + 1) = fbI fv p (6 ^ p) (fbO fv p) := rfl
  obtain ⟨Q, hQ⟩ : ∃ Q, 6 ^ p = Q := ⟨_, rfl⟩
  have hQ1 : 6 ^ (p + 1) = Q * 6 := by rw [Nat.pow_succ, hQ]
  rw [hQ] at hal b6 so ⊢
  refine ⟨?_, ?_⟩
  · intro c1
    rw [show (4 : Nat) = p by omega]
    exact ⟨pv, fs⟩
  intro c2
  refine ⟨?_, ?_⟩
  · exact ⟨0, rfl, Nat.zero_le _, pv, fs⟩
  intro most nu X5
  intro _
  intro _
  intro rX5
  intro h2
  obtain ⟨q, hm, hq, pv5, fs5⟩ := h2
  subst hm
  have fs51 : most = (fbI fv p q (fbO fv p)).1 := fs5.1
  refine ⟨?_, ?_⟩
  · intro c3
    refine ⟨?_, ?_⟩
    · first | omega | exact ⟨by omega, by omega⟩ | decide | assumption | exact ⟨by omega, by omega, by omega⟩ | exact ⟨by decide, by decide⟩
    refine ⟨?_, ?_⟩
    · first | omega | exact ⟨by omega, by omega⟩ | decide | assumption | exact ⟨by omega, by omega, by omega⟩ | exact ⟨by decide, by decide⟩
    refine ⟨?_, ?_⟩
    · refine ⟨p + 1, by omega, by omega, by rw [hQ1]; omega, pv5, ?_⟩
      rw [so, show Q = q by omega]
      exact fs5
    first | omega | exact ⟨by omega, by omega⟩ | decide | assumption | exact ⟨by omega, by omega, by omega⟩ | exact ⟨by decide, by decide⟩
  intro c4
  refine ⟨?_, ?_⟩
  · exact ⟨ha, ⟨by omega, by omega⟩, ⟨by omega, by omega⟩, by rw [(pv_q pv5).2.2]; exact h26, (pv_q pv5).1 hpq, fun y y0 y1 => by rw [go pv5 y y0 y1]; exact hled y y0 y1⟩
  intro r11
  intro _
  intro X10
  intro rX10
  intro h3
  obtain ⟨pu, rb, hr⟩ := h3
  have hr := hr (rL9 X i a) (fun y y0 y1 => go pv5 y y0 y1)
  simp only [(pv_q pv5).2.1, Int.toNat_natCast] at hr
  have hr : r11 = fv q p := by rw [hfv]; exact hr
  have pv10 : ∀ X1 : Nat → Int → Int, (∀ z, z ≠ i → X1 z = X10 z) → (∀ s, s ≠ 51 → s ≠ 52 → X1 i s = X10 i s) → pv9 X X1 i := fun X1 g1 g2 => ⟨fun z z1 z2 z3 => by rw [g1 z z1, pu z z2 z3]; exact pv5.1 z z1 z2 z3, fun s s1 s2 => by rw [g2 s s1 s2, pu i (by omega) (by omega)]; exact pv5.2 s s1 s2⟩
  have stp : fbI fv p (q + 1) (fbO fv p) = if (fbI fv p q (fbO fv p)).1 < fv q p then (fv q p, p, q) else fbI fv p q (fbO fv p) := rfl
  refine ⟨?_, ?_⟩
  · intro c5
    intro X13
    intro eX13
    intro rX13
    refine ⟨?_, ?_⟩
    · intro c6
      intro X15
      intro eX15
      intro rX15
      intro _
      refine ⟨?_, ?_⟩
      · first | omega | exact ⟨by omega, by omega⟩ | decide | assumption | exact ⟨by omega, by omega, by omega⟩ | exact ⟨by decide, by decide⟩
      refine ⟨?_, ?_⟩
      · refine ⟨q + 1, by omega, by omega, pv10 _ (fun z hz => by rw [eX15, zU_o hz, eX13, zU_o hz]) (fun s s1 s2 => by rw [eX15, zU_n (by omega), eX13, zU_n (by omega)]), ?_⟩
        rw [stp, if_neg (by omega)]
        refine ⟨by rw [← fs5.1]; omega, fun h => ?_⟩
        rw [eX15, zU_n (by omega), zU_s, eX13, zU_s, zU_n (by omega), pu i (by omega) (by omega)]
        exact fs5.2 h
      first | omega | exact ⟨by omega, by omega⟩ | decide | assumption | exact ⟨by omega, by omega, by omega⟩ | exact ⟨by decide, by decide⟩
    intro c7
    omega
  intro c8
  intro X21
  intro eX21
  intro rX21
  refine ⟨?_, ?_⟩
  · intro c9
    omega
  intro c10
  intro X26
  intro eX26
  intro rX26
  intro _
  refine ⟨?_, ?_⟩
  · first | omega | exact ⟨by omega, by omega⟩ | decide | assumption | exact ⟨by omega, by omega, by omega⟩ | exact ⟨by decide, by decide⟩
  refine ⟨?_, ?_⟩
  · refine ⟨q + 1, by omega, by omega, pv10 _ (fun z hz => by rw [eX26, zU_o hz, eX21, zU_o hz]) (fun s s1 s2 => by rw [eX26, zU_n (by omega), eX21, zU_n (by omega)]), ?_⟩
    rw [stp, if_pos (by omega)]
    refine ⟨by show max most r11 = fv q p; omega, fun h => ?_⟩
    rw [eX26, zU_n (by omega), zU_s, eX21, zU_s]
    exact ⟨rfl, rfl⟩
  first | omega | exact ⟨by omega, by omega⟩ | decide | assumption | exact ⟨by omega, by omega, by omega⟩ | exact ⟨by decide, by decide⟩
theorem c_X11_fillBest {l : Launch} {D : va_G} {cy : Nat → ClassId} {bs N : Nat} {sa : Nat → Nat} {kd len : Nat → Nat} {X Y : Nat → Int → Int} {R : Nat → Int → Option Nat} {i : Nat} (hM : zM N kd len R i) (a : Int) (ha : rI a) (hp : (0 ≤ a ∧ a < 15) ∧ (0 ≤ X i 26 ∧ X i 26 ≤ 6) ∧ oPq X i ∧ ∀ y, 0 ≤ y → y < 6 → 0 ≤ X (i + 16) (6 * a + y) ∧ X (i + 16) (6 * a + y) ≤ 100000) : Met l yX11_fillBest (.code yX11_fillBest cX11_fillBest 7 (some .int) :: zTB) (zRm 4 95) (zPc D cy bs sa N kd len X Y R [.ref (bs + (i)), .int (zI (a))]) (zQi D cy bs N kd len (fun r st => st.2.1 = Y ∧ st.2.2 = R ∧ (pv9 X (st.1) i ∧ fbS (r) (st.1) i (fbO (fun m n => rFv X i (rL9 X i (a)) m n) 4)))) 0 0 (zA bs) := w_X11_fillBest hM a ha (v_X11_fillBest a ha hp)
