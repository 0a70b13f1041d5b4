/-! IMAGES; WHAT IS READ IS TAKEN -/
def cpNP (X X1 : Nat → Int → Int) (n m : Nat) : Prop := (∀ z, z ≠ n → z ≠ n + 1 → X1 z = X z) ∧ (∀ w : Int, 0 ≤ w → w ≤ 6 → X1 n w = X m w) ∧ ∀ y : Int, 0 ≤ y → y < 6 → X1 (n + 1) y = X (m + 1) y
def cpBP (X X1 : Nat → Int → Int) (n m : Nat) : Prop := (∀ z, (z < n ∨ n + 5 < z) → X1 z = X z) ∧ X1 n 0 = X m 0 ∧ (∀ s : Nat, 1 ≤ s → s ≤ 4 → ∀ y : Int, 0 ≤ y → y < 15 → X1 (n + s) y = X (m + s) y) ∧ ∀ y : Int, 0 ≤ y → y < 135 → X1 (n + 5) y = X (m + 5) y
def cpRP (X X1 : Nat → Int → Int) (n m : Nat) (nn : Int) : Prop := (∀ z, z ≠ n → z ≠ n + 1 → X1 z = X z) ∧ X1 n 2 = X m 2 ∧ (∀ s : Int, s ≠ 2 → X1 n s = X n s) ∧ ∀ y : Int, 0 ≤ y → y < nn → X1 (n + 1) y = X (m + 1) y
/-- what is told of a sort, at a place, is what is read -/
def tkP (a b : Int) (X X1 : Nat → Int → Int) (i j : Nat) : Prop := (a = 0 → cpNP X X1 (i + 6 + 8 * b.toNat) (j + 1)) ∧ (a = 1 → cpBP X X1 (i + 8 + 8 * b.toNat) (j + 3)) ∧ (2 ≤ a → cpRP X X1 (i + 22 + 2 * ((a - 2) * 2 + b).toNat) (j + 12 + 2 * (a - 2).toNat) (rwN ((a - 2) * 2 + b)))
section ZRD
variable {N : Nat} {kd len : Nat → Nat} {R : Nat → Int → Option Nat} {i : Nat}
theorem zRr_n0 (h : zRdr N kd len R i) : i < N := by have := h.1; omega
theorem zRr_k0 (h : zRdr N kd len R i) : kd i = 7 := h.2.1
theorem zRr_nt (h : zRdr N kd len R i) : R i 0 = some (i + 1) ∧ zNet N kd len R (i + 1) := h.2.2.1
theorem zRr_bl (h : zRdr N kd len R i) : R i 1 = some (i + 3) ∧ zBlocks N kd len R (i + 3) := h.2.2.2.1
theorem zRr_n9 (h : zRdr N kd len R i) : i + 9 < N := by have := h.1; omega
theorem zRr_9 (h : zRdr N kd len R i) : kd (i + 9) = 19 ∧ len (i + 9) = 3 ∧ R i 2 = some (i + 9) := h.2.2.2.2.1
theorem zRr_l9 (h : zRdr N kd len R i) : len (i + 9) = 3 := h.2.2.2.2.1.2.1
theorem zRr_n11 (h : zRdr N kd len R i) : i + 11 < N := by have := h.1; omega
theorem zRr_11 (h : zRdr N kd len R i) : kd (i + 11) = 13 ∧ len (i + 11) = 4 ∧ R i 11 = some (i + 11) := h.2.2.2.2.2.1
theorem zRr_l11 (h : zRdr N kd len R i) : len (i + 11) = 4 := h.2.2.2.2.2.1.2.1
theorem zRr_z (h : zRdr N kd len R i) {z : Int} (h0 : 0 ≤ z) (h1 : z < 3) : (R (i + 9) z = some (i + 12 + 2 * z.toNat) ∧ zRows N kd len R (i + 12 + 2 * z.toNat) (rrN z)) ∧ len (i + 12 + 2 * z.toNat + 1) < 2147483648 := ⟨h.2.2.2.2.2.2.1 z h0 h1, by rw [zRows_l1 (h.2.2.2.2.2.2.1 z h0 h1).2]; unfold rrN; split <;> (try split) <;> decide⟩
end ZRD
abbrev cX9_take : ByteArray := prog_11_method_9_code
def yX9_take : MethodName := ⟨RX9, "take", "(IILWorkChains$Reader;)V"⟩
theorem dX9_take_0 : decode cX9_take 0 = .ok (.iload_n 1, 1) := by decide +kernel
theorem dX9_take_1 : decode cX9_take 1 = .ok (.ifCond .lt 17, 3) := by decide +kernel
theorem dX9_take_4 : decode cX9_take 4 = .ok (.iload_n 1, 1) := by decide +kernel
theorem dX9_take_5 : decode cX9_take 5 = .ok (.iconst 5, 1) := by decide +kernel
theorem dX9_take_6 : decode cX9_take 6 = .ok (.if_icmp .ge 12, 3) := by decide +kernel
theorem dX9_take_9 : decode cX9_take 9 = .ok (.iload_n 2, 1) := by decide +kernel
theorem dX9_take_10 : decode cX9_take 10 = .ok (.ifCond .lt 8, 3) := by decide +kernel
theorem dX9_take_13 : decode cX9_take 13 = .ok (.iload_n 2, 1) := by decide +kernel
theorem dX9_take_14 : decode cX9_take 14 = .ok (.iconst 2, 1) := by decide +kernel
theorem dX9_take_15 : decode cX9_take 15 = .ok (.if_icmp .lt 4, 3) := by decide +kernel
theorem dX9_take_18 : decode cX9_take 18 = .ok (.return_, 1) := by decide +kernel
theorem dX9_take_19 : decode cX9_take 19 = .ok (.iload_n 1, 1) := by decide +kernel
theorem dX9_take_20 : decode cX9_take 20 = .ok (.ifCond .ne 19, 3) := by decide +kernel
theorem dX9_take_23 : decode cX9_take 23 = .ok (.aload_n 0, 1) := by decide +kernel
theorem dX9_take_24 : decode cX9_take 24 = .ok (.getfield 25, 3) := by decide +kernel
theorem dX9_take_27 : decode cX9_take 27 = .ok (.iload_n 2, 1) := by decide +kernel
theorem dX9_take_28 : decode cX9_take 28 = .ok (.aaload, 1) := by decide +kernel
theorem dX9_take_29 : decode cX9_take 29 = .ok (.aload_n 3, 1) := by decide +kernel
theorem dX9_take_30 : decode cX9_take 30 = .ok (.getfield 72, 3) := by decide +kernel
theorem dX9_take_33 : decode cX9_take 33 = .ok (.invokevirtual 58, 3) := by decide +kernel
theorem dX9_take_36 : decode cX9_take 36 = .ok (.goto 47, 3) := by decide +kernel
theorem dX9_take_39 : decode cX9_take 39 = .ok (.iload_n 1, 1) := by decide +kernel
theorem dX9_take_40 : decode cX9_take 40 = .ok (.iconst 1, 1) := by decide +kernel
theorem dX9_take_41 : decode cX9_take 41 = .ok (.if_icmp .ne 19, 3) := by decide +kernel
theorem dX9_take_44 : decode cX9_take 44 = .ok (.aload_n 0, 1) := by decide +kernel
theorem dX9_take_45 : decode cX9_take 45 = .ok (.getfield 31, 3) := by decide +kernel
theorem dX9_take_48 : decode cX9_take 48 = .ok (.iload_n 2, 1) := by decide +kernel
theorem dX9_take_49 : decode cX9_take 49 = .ok (.aaload, 1) := by decide +kernel
theorem dX9_take_50 : decode cX9_take 50 = .ok (.aload_n 3, 1) := by decide +kernel
theorem dX9_take_51 : decode cX9_take 51 = .ok (.getfield 78, 3) := by decide +kernel
theorem dX9_take_54 : decode cX9_take 54 = .ok (.invokevirtual 62, 3) := by decide +kernel
theorem dX9_take_57 : decode cX9_take 57 = .ok (.goto 26, 3) := by decide +kernel
theorem dX9_take_60 : decode cX9_take 60 = .ok (.aload_n 0, 1) := by decide +kernel
theorem dX9_take_61 : decode cX9_take 61 = .ok (.getfield 37, 3) := by decide +kernel
theorem dX9_take_64 : decode cX9_take 64 = .ok (.iload_n 1, 1) := by decide +kernel
theorem dX9_take_65 : decode cX9_take 65 = .ok (.iconst 2, 1) := by decide +kernel
theorem dX9_take_66 : decode cX9_take 66 = .ok (.isub, 1) := by decide +kernel
theorem dX9_take_67 : decode cX9_take 67 = .ok (.iconst 2, 1) := by decide +kernel
theorem dX9_take_68 : decode cX9_take 68 = .ok (.imul, 1) := by decide +kernel
theorem dX9_take_69 : decode cX9_take 69 = .ok (.iload_n 2, 1) := by decide +kernel
theorem dX9_take_70 : decode cX9_take 70 = .ok (.iadd, 1) := by decide +kernel
theorem dX9_take_71 : decode cX9_take 71 = .ok (.aaload, 1) := by decide +kernel
theorem dX9_take_72 : decode cX9_take 72 = .ok (.aload_n 3, 1) := by decide +kernel
theorem dX9_take_73 : decode cX9_take 73 = .ok (.getfield 81, 3) := by decide +kernel
theorem dX9_take_76 : decode cX9_take 76 = .ok (.iload_n 1, 1) := by decide +kernel
theorem dX9_take_77 : decode cX9_take 77 = .ok (.iconst 2, 1) := by decide +kernel
theorem dX9_take_78 : decode cX9_take 78 = .ok (.isub, 1) := by decide +kernel
theorem dX9_take_79 : decode cX9_take 79 = .ok (.aaload, 1) := by decide +kernel
theorem dX9_take_80 : decode cX9_take 80 = .ok (.invokevirtual 65, 3) := by decide +kernel
theorem dX9_take_83 : decode cX9_take 83 = .ok (.aload_n 0, 1) := by decide +kernel
theorem dX9_take_84 : decode cX9_take 84 = .ok (.getfield 19, 3) := by decide +kernel
theorem dX9_take_87 : decode cX9_take 87 = .ok (.iload_n 1, 1) := by decide +kernel
theorem dX9_take_88 : decode cX9_take 88 = .ok (.aload_n 0, 1) := by decide +kernel
theorem dX9_take_89 : decode cX9_take 89 = .ok (.getfield 19, 3) := by decide +kernel
theorem dX9_take_92 : decode cX9_take 92 = .ok (.iload_n 1, 1) := by decide +kernel
theorem dX9_take_93 : decode cX9_take 93 = .ok (.iaload, 1) := by decide +kernel
theorem dX9_take_94 : decode cX9_take 94 = .ok (.iload_n 2, 1) := by decide +kernel
theorem dX9_take_95 : decode cX9_take 95 = .ok (.iconst 1, 1) := by decide +kernel
theorem dX9_take_96 : decode cX9_take 96 = .ok (.iadd, 1) := by decide +kernel
theorem dX9_take_97 : decode cX9_take 97 = .ok (.invokestatic 82, 3) := by decide +kernel
theorem dX9_take_100 : decode cX9_take 100 = .ok (.iastore, 1) := by decide +kernel
theorem dX9_take_101 : decode cX9_take 101 = .ok (.return_, 1) := by decide +kernel
theorem q_327 : Cond.fieldLink RX9 81 RX7 "rows" "[LWorkChains$Rows;" ∈ zTB := zmem 327 (by decide +kernel) rfl
theorem q_325 : Cond.fieldLink RX9 78 RX7 "blocks" "LWorkChains$Blocks;" ∈ zTB := zmem 325 (by decide +kernel) rfl
theorem q_323 : Cond.fieldLink RX9 72 RX7 "net" "LWorkChains$Net;" ∈ zTB := zmem 323 (by decide +kernel) rfl
def F_X9_take (i : Nat) (j : Nat) (X Y : Nat → Int → Int) (R : Nat → Int → Option Nat) (a : Int) (b : Int) : Prop := (∀ i j, rI (X i j)) → (∀ i j, rL (Y i j)) → ((a < 0) → (∃ X2, (X) = zU X2 (i + 2) (a) (max (X (i + 2) (a)) ((b) + 1)) ∧ tkP (a) (b) X X2 i j)) ∧ ((¬ (a < 0)) → (((5 ≤ a) → (∃ X2, (X) = zU X2 (i + 2) (a) (max (X (i + 2) (a)) ((b) + 1)) ∧ tkP (a) (b) X X2 i j)) ∧ ((¬ (5 ≤ a)) → (((b < 0) → (∃ X2, (X) = zU X2 (i + 2) (a) (max (X (i + 2) (a)) ((b) + 1)) ∧ tkP (a) (b) X X2 i j)) ∧ ((¬ (b < 0)) → (((b < 2) → ((∀ (X5 : Nat → Int → Int), (∀ i j, rI (X5 i j)) → (tkP a b X X5 i j ∧ X5 (i + 2) = X (i + 2)) → ((0 ≤ a ∧ a < 5) ∧ ((rI (b + 1)) ∧ ((0 ≤ a ∧ a < 5) ∧ (∀ X9 : Nat → Int → Int, X9 = zU X5 (i + 2) (a) (max (X5 (i + 2) (a)) (b + 1)) → (∀ i j, rI (X9 i j)) → (∃ X2, (X9) = zU X2 (i + 2) (a) (max (X (i + 2) (a)) ((b) + 1)) ∧ tkP (a) (b) X X2 i j)))))) ∧ (((¬ a = 0) → (((¬ a = 1) → ((0 ≤ (((a - 2) * 2) + b) ∧ (((a - 2) * 2) + b) < 6) ∧ ((0 ≤ (a - 2) ∧ (a - 2) < 3) ∧ (((j + 12 + 2 * (a - 2 : Int).toNat) ≠ (i + 22 + 2 * (((a - 2) * 2) + b : Int).toNat) ∧ (rwN (((a - 2) * 2) + b)) = (rrN (a - 2)) ∧ (rwN (((a - 2) * 2) + b)) ≤ 200) ∧ (∀ X15 : Nat → Int → Int, (∀ i j, rI (X15 i j)) → ((X15) = zCp (zU X (i + 22 + 2 * (((a - 2) * 2) + b : Int).toNat) 2 (X (j + 12 + 2 * (a - 2 : Int).toNat) 2)) ((j + 12 + 2 * (a - 2 : Int).toNat) + 1) ((i + 22 + 2 * (((a - 2) * 2) + b : Int).toNat) + 1) 0 0 (rwN (((a - 2) * 2) + b))) → (tkP a b X X15 i j ∧ X15 (i + 2) = X (i + 2))))))) ∧ ((¬ (¬ a = 1)) → ((0 ≤ b ∧ b < 2) ∧ (((j + 3) ≠ (i + 8 + 8 * (b : Int).toNat) ∧ ((j + 3) + 5 < (i + 8 + 8 * (b : Int).toNat) ∨ (i + 8 + 8 * (b : Int).toNat) + 5 < (j + 3))) ∧ (∀ X18 : Nat → Int → Int, (∀ i j, rI (X18 i j)) → ((X18) = zCp (zCp (zCp (zCp (zCp (zU X (i + 8 + 8 * (b : Int).toNat) 0 (X (j + 3) 0)) ((j + 3) + 1) ((i + 8 + 8 * (b : Int).toNat) + 1) 0 0 15) ((j + 3) + 2) ((i + 8 + 8 * (b : Int).toNat) + 2) 0 0 15) ((j + 3) + 3) ((i + 8 + 8 * (b : Int).toNat) + 3) 0 0 15) ((j + 3) + 4) ((i + 8 + 8 * (b : Int).toNat) + 4) 0 0 15) ((j + 3) + 5) ((i + 8 + 8 * (b : Int).toNat) + 5) 0 0 135) → (tkP a b X X18 i j ∧ X18 (i + 2) = X (i + 2)))))))) ∧ ((¬ (¬ a = 0)) → ((0 ≤ b ∧ b < 2) ∧ (((j + 1) ≠ (i + 6 + 8 * (b : Int).toNat)) ∧ (∀ X21 : Nat → Int → Int, (∀ i j, rI (X21 i j)) → ((X21) = zCp (zU (zU (zU (zU (zU (zU (zU X (i + 6 + 8 * (b : Int).toNat) 0 (X (j + 1) 0)) (i + 6 + 8 * (b : Int).toNat) 1 (X (j + 1) 1)) (i + 6 + 8 * (b : Int).toNat) 2 (X (j + 1) 2)) (i + 6 + 8 * (b : Int).toNat) 3 (X (j + 1) 3)) (i + 6 + 8 * (b : Int).toNat) 4 (X (j + 1) 4)) (i + 6 + 8 * (b : Int).toNat) 5 (X (j + 1) 5)) (i + 6 + 8 * (b : Int).toNat) 6 (X (j + 1) 6)) ((j + 1) + 1) ((i + 6 + 8 * (b : Int).toNat) + 1) 0 0 6) → (tkP a b X X21 i j ∧ X21 (i + 2) = X (i + 2))))))))) ∧ ((¬ (b < 2)) → (∃ X2, (X) = zU X2 (i + 2) (a) (max (X (i + 2) (a)) ((b) + 1)) ∧ tkP (a) (b) X X2 i j))))))))
set_option maxHeartbeats 4000000 in
set_option maxRecDepth 100000 in
theorem w_X9_take {l : Launch} {D : va_G} {cy : Nat → ClassId} {bs N : Nat} {sa : Nat → Nat} {kd len : Nat → Nat} {X Y : Nat → Int → Int} {R : Nat → Int → Option Nat} {i : Nat} (hC : zTd N kd len R i) {j : Nat} (hD : zRdr N kd len R j) (a : Int) (ha : rI a) (b : Int) (hb : rI b) (hF : F_X9_take i j X Y R a b) : Met l yX9_take (.code yX9_take cX9_take 4 none :: zTB) (zRm 2 81) (zPc D cy bs sa N kd len X Y R [.ref (bs + (i)), .int (zI (a)), .int (zI (b)), .ref (bs + (j))]) (zQv D cy bs N kd len (fun st => st.2.1 = Y ∧ st.2.2 = R ∧ (∃ X2, (st.1) = zU X2 (i + 2) (a) (max (X (i + 2) (a)) ((b) + 1)) ∧ tkP (a) (b) X X2 i j))) 0 0 (zA bs) := by
  refine zstart (by decide) (Nat.le_of_ble_eq_true rfl) ?_
  intro p e s m args below meth c ls C hE hH hr hlk hnm hl hargs
  have hF := hF hH.2.2.1 hH.2.2.2
  have hS : va_S (zA bs) s.heap s.heap [] := va_S.rf
  have hl : lv_has ls 4 [(0, .ref (bs + (i))), (1, .int (zI (a))), (2, .int (zI (b))), (3, .ref (bs + (j)))] := hl
  refine lv_iload_n C.1 C.2.1 dX9_take_0 rfl (lv_at hl 1 rfl) ?_
  refine zd_if_lt C ha 18 dX9_take_1 (by decide) (fun c1 => ?_) (fun c1 => ?_)
  · have hF := hF.1 c1
    exact zd_vret C hr hlk hH hS (⟨rfl, rfl, hF⟩) dX9_take_18
  · have hF := hF.2 c1
    refine lv_iload_n C.1 C.2.1 dX9_take_4 rfl (lv_at hl 1 rfl) ?_
    refine zd_iconst C dX9_take_5 ?_
    refine zd_icmp_ge C ha (by decide) 18 dX9_take_6 (by decide) (fun c2 => ?_) (fun c2 => ?_)
    · have hF := hF.1 c2
      exact zd_vret C hr hlk hH hS (⟨rfl, rfl, hF⟩) dX9_take_18
    · have hF := hF.2 c2
      refine lv_iload_n C.1 C.2.1 dX9_take_9 rfl (lv_at hl 2 rfl) ?_
      refine zd_if_lt C hb 18 dX9_take_10 (by decide) (fun c3 => ?_) (fun c3 => ?_)
      · have hF := hF.1 c3
        exact zd_vret C hr hlk hH hS (⟨rfl, rfl, hF⟩) dX9_take_18
      · have hF := hF.2 c3
        refine lv_iload_n C.1 C.2.1 dX9_take_13 rfl (lv_at hl 2 rfl) ?_
        refine zd_iconst C dX9_take_14 ?_
        refine zd_icmp_lt C hb (by decide) 19 dX9_take_15 (by decide) (fun c4 => ?_) (fun c4 => ?_)
        · have hF := hF.1 c4
          have J1 : ∀ (X5 : Nat → Int → Int), (tkP a b X X5 i j ∧ X5 (i + 2) = X (i + 2)) → ∀ (H : Heap) (locs : List Loc) (ls : Array Slot), zH D cy bs N kd len X5 Y R H → va_S (zA bs) s.heap H locs → lv_has ls 4 [(0, .ref (bs + (i))), (1, .int (zI (a))), (2, .int (zI (b))), (3, .ref (bs + (j)))] → W p l e (zRm 2 81) s m args below meth c H locs 0 0 (MQ below (zQv D cy bs N kd len (fun st => st.2.1 = Y ∧ st.2.2 = R ∧ (∃ X2, (st.1) = zU X2 (i + 2) (a) (max (X (i + 2) (a)) ((b) + 1)) ∧ tkP (a) (b) X X2 i j))) args s 0 0 (zA bs)) (F0 m 83 ls []) := by
            intro X5  hI H locs ls hH hS hl
            have hF := hF.1 X5  hH.2.2.1 hI
            refine lv_aload_n C.1 C.2.1 dX9_take_83 rfl (lv_at hl 0 rfl) ?_
            refine zg9_4 C hH (zTold_n0 hC.1) (zTold_k0 hC.1) q_287 (zTold_r2 hC.1) dX9_take_84 ?_
            refine lv_iload_n C.1 C.2.1 dX9_take_87 rfl (lv_at hl 1 rfl) ?_
            refine lv_aload_n C.1 C.2.1 dX9_take_88 rfl (lv_at hl 0 rfl) ?_
            refine zg9_4 C hH (zTold_n0 hC.1) (zTold_k0 hC.1) q_287 (zTold_r2 hC.1) dX9_take_89 ?_
            refine lv_iload_n C.1 C.2.1 dX9_take_92 rfl (lv_at hl 1 rfl) ?_
            obtain ⟨o6, hF⟩ := hF
            refine zd_iald C hH (zTold_n2 hC.1) (zTold_k2 hC.1) o6.1 (by rw [zTold_l2 hC.1]; exact o6.2) (by rw [zTold_l2 hC.1]; decide) dX9_take_93 ?_
            refine lv_iload_n C.1 C.2.1 dX9_take_94 rfl (lv_at hl 2 rfl) ?_
            refine zd_iconst C dX9_take_95 ?_
            refine zd_iadd C dX9_take_96 ?_
            obtain ⟨o7, hF⟩ := hF
            refine zd_mmax C hl.1 q_804 q_805 q_141 q_806 (Nat.le_of_ble_eq_true rfl) (Nat.le_of_ble_eq_true rfl) (Nat.zero_le _) (Nat.zero_le _) (hH.2.2.1 _ _) o7 dX9_take_97 ?_
            obtain ⟨o8, hF⟩ := hF
            refine zd_iast C hH hS (zTold_n2 hC.1) (zTold_k2 hC.1) o8.1 (by rw [zTold_l2 hC.1]; exact o8.2) (by rw [zTold_l2 hC.1]; decide) (mx_rI (hH.2.2.1 _ _) o7) dX9_take_100 (fun H locs hH hS => ?_)
            obtain ⟨X9, eX9⟩ : ∃ z, z = zU X5 (i + 2) (a) (max (X5 (i + 2) (a)) (b + 1)) := ⟨_, rfl⟩
            rw [← eX9] at hH
            have hF := hF X9 eX9 hH.2.2.1
            exact zd_vret C hr hlk hH hS (⟨rfl, rfl, hF⟩) dX9_take_101
          have hF := hF.2
          refine lv_iload_n C.1 C.2.1 dX9_take_19 rfl (lv_at hl 1 rfl) ?_
          refine zd_if_ne C ha 39 dX9_take_20 (by decide) (fun c10 => ?_) (fun c10 => ?_)
          · have hF := hF.1 c10
            refine lv_iload_n C.1 C.2.1 dX9_take_39 rfl (lv_at hl 1 rfl) ?_
            refine zd_iconst C dX9_take_40 ?_
            refine zd_icmp_ne C ha (by decide) 60 dX9_take_41 (by decide) (fun c11 => ?_) (fun c11 => ?_)
            · have hF := hF.1 c11
              refine lv_aload_n C.1 C.2.1 dX9_take_60 rfl (lv_at hl 0 rfl) ?_
              refine zg9_7 C hH (zTold_n0 hC.1) (zTold_k0 hC.1) q_291 (zTd_r5 hC) dX9_take_61 ?_
              refine lv_iload_n C.1 C.2.1 dX9_take_64 rfl (lv_at hl 1 rfl) ?_
              refine zd_iconst C dX9_take_65 ?_
              refine zd_isub C dX9_take_66 ?_
              refine zd_iconst C dX9_take_67 ?_
              refine zd_imul C dX9_take_68 ?_
              refine lv_iload_n C.1 C.2.1 dX9_take_69 rfl (lv_at hl 2 rfl) ?_
              refine zd_iadd C dX9_take_70 ?_
              obtain ⟨o12, hF⟩ := hF
              refine zd_aaldr C hH (zTd_n5 hC) 7 rfl rfl (by rw [(zTd_k5 hC)]; rfl) o12.1 (by rw [zTd_l5 hC]; exact o12.2) (by rw [zTd_l5 hC]; decide) (zTd_rw hC o12.1 o12.2).1.1 dX9_take_71 ?_
              refine lv_aload_n C.1 C.2.1 dX9_take_72 rfl (lv_at hl 3 rfl) ?_
              refine zg7_2 C hH (zRr_n0 hD) (zRr_k0 hD) q_327 (zRr_9 hD).2.2 dX9_take_73 ?_
              refine lv_iload_n C.1 C.2.1 dX9_take_76 rfl (lv_at hl 1 rfl) ?_
              refine zd_iconst C dX9_take_77 ?_
              refine zd_isub C dX9_take_78 ?_
              obtain ⟨o13, hF⟩ := hF
              refine zd_aaldr C hH (zRr_n9 hD) 7 rfl rfl (by rw [(zRr_9 hD).1]; rfl) o13.1 (by rw [zRr_l9 hD]; exact o13.2) (by rw [zRr_l9 hD]; decide) (zRr_z hD o13.1 o13.2).1.1 dX9_take_79 ?_
              obtain ⟨o14, hF⟩ := hF
              refine zgov (zrunV (As := [.ref (bs + (j + 12 + 2 * (a - 2 : Int).toNat))]) (rest := []) C hE hH hS hl.1 (c_X8_copy (l := l) (zTd_rw hC o12.1 o12.2).1.2 (zRr_z hD o13.1 o13.2).1.2 (zTd_rw hC o12.1 o12.2).2 (zRr_z hD o13.1 o13.2).2  o14) k_RX9_65 ⟨Nat.le_of_ble_eq_true rfl, Nat.le_of_ble_eq_true rfl⟩ (zRows_n0 (zTd_rw hC o12.1 o12.2).1.2) (zRows_k0 (zTd_rw hC o12.1 o12.2).1.2) rfl rfl rfl (Nat.le_of_ble_eq_true rfl) dX9_take_80 ⟨Nat.zero_le _, Nat.zero_le _⟩) hS (fun X15 Yq Rq H locs hq hH hS => ?_)
              obtain ⟨h9Y, h9R, hq⟩ := hq
              dsimp only at h9Y h9R
              rw [h9Y, h9R] at hH
              have hF := hF X15 hH.2.2.1 hq
              exact J1 X15  hF _ _ _ hH hS (lv_sub hl [0, 1, 2, 3] rfl)
            · have hF := hF.2 c11
              refine lv_aload_n C.1 C.2.1 dX9_take_44 rfl (lv_at hl 0 rfl) ?_
              refine zg9_6 C hH (zTold_n0 hC.1) (zTold_k0 hC.1) q_290 (zTd_r4 hC) dX9_take_45 ?_
              refine lv_iload_n C.1 C.2.1 dX9_take_48 rfl (lv_at hl 2 rfl) ?_
              obtain ⟨o16, hF⟩ := hF
              refine zd_aaldr C hH (zTd_n4 hC) 4 rfl rfl (by rw [(zTd_k4 hC)]; rfl) o16.1 (by rw [zTd_l4 hC]; exact o16.2) (by rw [zTd_l4 hC]; decide) (zTd_nb hC o16.1 o16.2).2.1 dX9_take_49 ?_
              refine lv_aload_n C.1 C.2.1 dX9_take_50 rfl (lv_at hl 3 rfl) ?_
              refine zg7_1 C hH (zRr_n0 hD) (zRr_k0 hD) q_325 (zRr_bl hD).1 dX9_take_51 ?_
              obtain ⟨o17, hF⟩ := hF
              refine zgov (zrunV (As := [.ref (bs + (j + 3))]) (rest := []) C hE hH hS hl.1 (c_X0_copy (l := l) (zTd_nb hC o16.1 o16.2).2.2 (zRr_bl hD).2  o17) k_RX9_62 ⟨Nat.le_of_ble_eq_true rfl, Nat.le_of_ble_eq_true rfl⟩ (zBlocks_n0 (zTd_nb hC o16.1 o16.2).2.2) (zBlocks_k0 (zTd_nb hC o16.1 o16.2).2.2) rfl rfl rfl (Nat.le_of_ble_eq_true rfl) dX9_take_54 ⟨Nat.zero_le _, Nat.zero_le _⟩) hS (fun X18 Yq Rq H locs hq hH hS => ?_)
              obtain ⟨h9Y, h9R, hq⟩ := hq
              dsimp only at h9Y h9R
              rw [h9Y, h9R] at hH
              have hF := hF X18 hH.2.2.1 hq
              refine lv_goto (tgt := 83) C.1 C.2.1 dX9_take_57 (by decide) ?_
              exact J1 X18  hF _ _ _ hH hS (lv_sub hl [0, 1, 2, 3] rfl)
          · have hF := hF.2 c10
            refine lv_aload_n C.1 C.2.1 dX9_take_23 rfl (lv_at hl 0 rfl) ?_
            refine zg9_5 C hH (zTold_n0 hC.1) (zTold_k0 hC.1) q_289 (zTd_r3 hC) dX9_take_24 ?_
            refine lv_iload_n C.1 C.2.1 dX9_take_27 rfl (lv_at hl 2 rfl) ?_
            obtain ⟨o19, hF⟩ := hF
            refine zd_aaldr C hH (zTd_n3 hC) 6 rfl rfl (by rw [(zTd_k3 hC)]; rfl) o19.1 (by rw [zTd_l3 hC]; exact o19.2) (by rw [zTd_l3 hC]; decide) (zTd_nb hC o19.1 o19.2).1.1 dX9_take_28 ?_
            refine lv_aload_n C.1 C.2.1 dX9_take_29 rfl (lv_at hl 3 rfl) ?_
            refine zg7_0 C hH (zRr_n0 hD) (zRr_k0 hD) q_323 (zRr_nt hD).1 dX9_take_30 ?_
            obtain ⟨o20, hF⟩ := hF
            refine zgov (zrunV (As := [.ref (bs + (j + 1))]) (rest := []) C hE hH hS hl.1 (c_X6_copy (l := l) (zTd_nb hC o19.1 o19.2).1.2 (zRr_nt hD).2  o20) k_RX9_58 ⟨Nat.le_of_ble_eq_true rfl, Nat.le_of_ble_eq_true rfl⟩ (zNet_n0 (zTd_nb hC o19.1 o19.2).1.2) (zNet_k0 (zTd_nb hC o19.1 o19.2).1.2) rfl rfl rfl (Nat.le_of_ble_eq_true rfl) dX9_take_33 ⟨Nat.zero_le _, Nat.zero_le _⟩) hS (fun X21 Yq Rq H locs hq hH hS => ?_)
            obtain ⟨h9Y, h9R, hq⟩ := hq
            dsimp only at h9Y h9R
            rw [h9Y, h9R] at hH
            have hF := hF X21 hH.2.2.1 hq
            refine lv_goto (tgt := 83) C.1 C.2.1 dX9_take_36 (by decide) ?_
            exact J1 X21  hF _ _ _ hH hS (lv_sub hl [0, 1, 2, 3] rfl)
        · have hF := hF.2 c4
          exact zd_vret C hr hlk hH hS (⟨rfl, rfl, hF⟩) dX9_take_18
theorem v_X9_take {X Y : Nat → Int → Int} {R : Nat → Int → Option Nat} {i : Nat} {j : Nat} (a : Int) (ha : rI a) (b : Int) (hb : rI b) (hp : (0 ≤ a ∧ a ≤ 4) ∧ (0 ≤ b ∧ b < 2) ∧ i + 33 < j) : F_X9_take i j X Y R a b := by
  unfold F_X9_take
  intro hX hY
  obtain ⟨⟨ha0, ha4⟩, ⟨hb0, hb1⟩, hij⟩ := hp
  refine ⟨?_, ?_⟩
  · intro c1
    exfalso
    omega
  intro c2
  refine ⟨?_, ?_⟩
  · intro c3
    exfalso
    omega
  intro c4
  refine ⟨?_, ?_⟩
  · intro c5
    exfalso
    omega
  intro c6
  refine ⟨?_, ?_⟩
  · intro c7
    refine ⟨?_, ?_⟩
    · intro X5
      intro rX5
      intro h1
      obtain ⟨h1, e2⟩ := h1
      refine ⟨?_, ?_⟩
      · first | omega | exact ⟨by omega, by omega⟩ | decide | assumption | exact ⟨by omega, by omega, by omega⟩ | exact ⟨by decide, by decide⟩
      refine ⟨?_, ?_⟩
      · first | omega | exact ⟨by omega, by omega⟩ | decide | assumption | exact ⟨by omega, by omega, by omega⟩ | exact ⟨by decide, by decide⟩
      refine ⟨?_, ?_⟩
      · first | omega | exact ⟨by omega, by omega⟩ | decide | assumption | exact ⟨by omega, by omega, by omega⟩ | exact ⟨by decide, by decide⟩
      intro X9
      intro eX9
      intro rX9
      exact ⟨X5, by rw [eX9, e2], h1⟩
    refine ⟨?_, ?_⟩
    · intro c8
      refine ⟨?_, ?_⟩
      · intro c9
        refine ⟨?_, ?_⟩
        · first | omega | exact ⟨by omega, by omega⟩ | decide | assumption | exact ⟨by omega, by omega, by omega⟩ | exact ⟨by decide, by decide⟩
        refine ⟨?_, ?_⟩
        · first | omega | exact ⟨by omega, by omega⟩ | decide | assumption | exact ⟨by omega, by omega, by omega⟩ | exact ⟨by decide, by decide⟩
        refine ⟨?_, ?_⟩
        · refine ⟨by omega, ?_, ?_⟩
          · unfold rwN rrN
            repeat' split
            all_goals first | rfl | omega
          · unfold rwN
            repeat' split
            all_goals decide
        intro X15
        intro rX15
        intro h2
        have k := cpR h2 (by omega)
        exact ⟨⟨fun e => absurd e c8, fun e => absurd e c9, fun _ => k⟩, k.1 _ (by omega) (by omega)⟩
      intro c10
      refine ⟨?_, ?_⟩
      · first | omega | exact ⟨by omega, by omega⟩ | decide | assumption | exact ⟨by omega, by omega, by omega⟩ | exact ⟨by decide, by decide⟩
      refine ⟨?_, ?_⟩
      · first | omega | exact ⟨by omega, by omega⟩ | decide | assumption | exact ⟨by omega, by omega, by omega⟩ | exact ⟨by decide, by decide⟩
      intro X18
      intro rX18
      intro h3
      have k := cpB h3 (by omega)
      exact ⟨⟨fun e => absurd e c8, fun _ => k, fun e => absurd (Classical.not_not.mp c10) (by omega)⟩, k.1 _ (by omega)⟩
    intro c11
    refine ⟨?_, ?_⟩
    · first | omega | exact ⟨by omega, by omega⟩ | decide | assumption | exact ⟨by omega, by omega, by omega⟩ | exact ⟨by decide, by decide⟩
    refine ⟨?_, ?_⟩
    · first | omega | exact ⟨by omega, by omega⟩ | decide | assumption | exact ⟨by omega, by omega, by omega⟩ | exact ⟨by decide, by decide⟩
    intro X21
    intro rX21
    intro h4
    have k := cpN h4 (by omega)
    exact ⟨⟨fun _ => k, fun e => absurd (Classical.not_not.mp c11) (by omega), fun e => absurd (Classical.not_not.mp c11) (by omega)⟩, k.1 _ (by omega) (by omega)⟩
  intro c12
  exfalso
  omega
theorem c_X9_take {l : Launch} {D : va_G} {cy : Nat → ClassId} {bs N : Nat} {sa : Nat → Nat} {kd len : Nat → Nat} {X Y : Nat → Int → Int} {R : Nat → Int → Option Nat} {i : Nat} (hC : zTd N kd len R i) {j : Nat} (hD : zRdr N kd len R j) (a : Int) (ha : rI a) (b : Int) (hb : rI b) (hp : (0 ≤ a ∧ a ≤ 4) ∧ (0 ≤ b ∧ b < 2) ∧ i + 33 < j) : Met l yX9_take (.code yX9_take cX9_take 4 none :: zTB) (zRm 2 81) (zPc D cy bs sa N kd len X Y R [.ref (bs + (i)), .int (zI (a)), .int (zI (b)), .ref (bs + (j))]) (zQv D cy bs N kd len (fun st => st.2.1 = Y ∧ st.2.2 = R ∧ (∃ X2, (st.1) = zU X2 (i + 2) (a) (max (X (i + 2) (a)) ((b) + 1)) ∧ tkP (a) (b) X X2 i j))) 0 0 (zA bs) := w_X9_take hC hD a ha b hb (v_X9_take a ha b hb hp)
abbrev cX10_image : ByteArray := prog_1_method_7_code
def yX10_image : MethodName := ⟨RX10, "image", "(I)Z"⟩
theorem dX10_image_0 : decode cX10_image 0 = .ok (.iload_n 1, 1) := by decide +kernel
theorem dX10_image_1 : decode cX10_image 1 = .ok (.ifCond .lt 8, 3) := by decide +kernel
theorem dX10_image_4 : decode cX10_image 4 = .ok (.iload_n 1, 1) := by decide +kernel
theorem dX10_image_5 : decode cX10_image 5 = .ok (.iconst 3, 1) := by decide +kernel
theorem dX10_image_6 : decode cX10_image 6 = .ok (.if_icmp .lt 5, 3) := by decide +kernel
theorem dX10_image_9 : decode cX10_image 9 = .ok (.iconst 0, 1) := by decide +kernel
theorem dX10_image_10 : decode cX10_image 10 = .ok (.ireturn, 1) := by decide +kernel
theorem dX10_image_11 : decode cX10_image 11 = .ok (.aload_n 0, 1) := by decide +kernel
theorem dX10_image_12 : decode cX10_image 12 = .ok (.getfield 16, 3) := by decide +kernel
theorem dX10_image_15 : decode cX10_image 15 = .ok (.iload_n 1, 1) := by decide +kernel
theorem dX10_image_16 : decode cX10_image 16 = .ok (.aaload, 1) := by decide +kernel
theorem dX10_image_17 : decode cX10_image 17 = .ok (.aload_n 0, 1) := by decide +kernel
theorem dX10_image_18 : decode cX10_image 18 = .ok (.getfield 10, 3) := by decide +kernel
theorem dX10_image_21 : decode cX10_image 21 = .ok (.invokevirtual 106, 3) := by decide +kernel
theorem dX10_image_24 : decode cX10_image 24 = .ok (.aload_n 0, 1) := by decide +kernel
theorem dX10_image_25 : decode cX10_image 25 = .ok (.getfield 20, 3) := by decide +kernel
theorem dX10_image_28 : decode cX10_image 28 = .ok (.iload_n 1, 1) := by decide +kernel
theorem dX10_image_29 : decode cX10_image 29 = .ok (.iconst 1, 1) := by decide +kernel
theorem dX10_image_30 : decode cX10_image 30 = .ok (.bastore, 1) := by decide +kernel
theorem dX10_image_31 : decode cX10_image 31 = .ok (.iconst 1, 1) := by decide +kernel
theorem dX10_image_32 : decode cX10_image 32 = .ok (.ireturn, 1) := by decide +kernel
theorem q_570 : Cond.fieldLink RX10 16 RX10 "images" "[LWorkChains$Told;" ∈ zTB := zmem 570 (by decide +kernel) rfl
theorem q_819 : Cond.methodLink RX10 106 yX9_copy ∈ zTB := zmem 819 (by decide +kernel) rfl
theorem q_820 : Cond.instanceMethod yX9_copy ∈ zTB := zmem 820 (by decide +kernel) rfl
theorem q_821 : Cond.selects RX9 yX9_copy yX9_copy ∈ zTB := zmem 821 (by decide +kernel) rfl
theorem q_822 : Cond.code yX9_copy cX9_copy 3 none ∈ zTB := zmem 822 (by decide +kernel) rfl
theorem k_RX10_106 : zLv RX10 106 RX9 yX9_copy cX9_copy 3 none 1 := ⟨⟨q_819, q_820, q_821, q_130, q_822⟩, rfl, ⟨by decide, by decide⟩, by decide +kernel⟩
theorem q_571 : Cond.fieldLink RX10 20 RX10 "imaged" "[Z" ∈ zTB := zmem 571 (by decide +kernel) rfl
def F_X10_image (i : Nat) (X Y : Nat → Int → Int) (R : Nat → Int → Option Nat) (a : Int) : Prop := (∀ i j, rI (X i j)) → (∀ i j, rL (Y i j)) → ((a < 0) → (false = decide (0 ≤ (a) ∧ (a) < 3) ∧ (false = false → (X) = X) ∧ (false = true → ∃ X2, cpT X X2 (i + 36 + 34 * (a).toNat) (i + 1) ∧ (X) = zU X2 (i + 138) (a) 1))) ∧ ((¬ (a < 0)) → (((a < 3) → ((0 ≤ a ∧ a < 3) ∧ ((((i + 1) + 33 < (i + 36 + 34 * (a : Int).toNat) ∨ (i + 36 + 34 * (a : Int).toNat) + 33 < (i + 1)) ∧ ∀ y : Int, 0 ≤ y → y < 600 → -128 ≤ X ((i + 1) + 1) y ∧ X ((i + 1) + 1) y ≤ 127) ∧ (∀ X5 : Nat → Int → Int, (∀ i j, rI (X5 i j)) → (cpT X (X5) (i + 36 + 34 * (a : Int).toNat) (i + 1)) → ((0 ≤ a ∧ a < 3) ∧ (∀ X7 : Nat → Int → Int, X7 = zU X5 (i + 138) (a) (1) → (∀ i j, rI (X7 i j)) → (true = decide (0 ≤ (a) ∧ (a) < 3) ∧ (true = false → (X7) = X) ∧ (true = true → ∃ X2, cpT X X2 (i + 36 + 34 * (a).toNat) (i + 1) ∧ (X7) = zU X2 (i + 138) (a) 1)))))))) ∧ ((¬ (a < 3)) → (false = decide (0 ≤ (a) ∧ (a) < 3) ∧ (false = false → (X) = X) ∧ (false = true → ∃ X2, cpT X X2 (i + 36 + 34 * (a).toNat) (i + 1) ∧ (X) = zU X2 (i + 138) (a) 1)))))
set_option maxHeartbeats 4000000 in
set_option maxRecDepth 100000 in
theorem w_X10_image {l : Launch} {D : va_G} {cy : Nat → ClassId} {bs N : Nat} {sa : Nat → Nat} {kd len : Nat → Nat} {X Y : Nat → Int → Int} {R : Nat → Int → Option Nat} {i : Nat} (hC : zWC N kd len R i) (a : Int) (ha : rI a) (hF : F_X10_image i X Y R a) : Met l yX10_image (.code yX10_image cX10_image 2 (some .boolean) :: zTB) (zRm 3 103) (zPc D cy bs sa N kd len X Y R [.ref (bs + (i)), .int (zI (a))]) (zQi D cy bs N kd len (fun r st => st.2.1 = Y ∧ st.2.2 = R ∧ ∃ rb : Bool, r = bz rb ∧ (rb = decide (0 ≤ (a) ∧ (a) < 3) ∧ (rb = false → (st.1) = X) ∧ (rb = true → ∃ X2, cpT X X2 (i + 36 + 34 * (a).toNat) (i + 1) ∧ (st.1) = zU X2 (i + 138) (a) 1)))) 0 0 (zA bs) := by
  refine zstart (by decide) (Nat.le_of_ble_eq_true rfl) ?_
  intro p e s m args below meth c ls C hE hH hr hlk hnm hl hargs
  have hF := hF hH.2.2.1 hH.2.2.2
  have hS : va_S (zA bs) s.heap s.heap [] := va_S.rf
  have hl : lv_has ls 2 [(0, .ref (bs + (i))), (1, .int (zI (a)))] := hl
  refine lv_iload_n C.1 C.2.1 dX10_image_0 rfl (lv_at hl 1 rfl) ?_
  refine zd_if_lt C ha 9 dX10_image_1 (by decide) (fun c1 => ?_) (fun c1 => ?_)
  · have hF := hF.1 c1
    refine zd_iconst C dX10_image_9 ?_
    exact zd_zret C hr hlk hH hS (by decide) (⟨rfl, rfl, _, rfl, hF⟩) dX10_image_10
  · have hF := hF.2 c1
    refine lv_iload_n C.1 C.2.1 dX10_image_4 rfl (lv_at hl 1 rfl) ?_
    refine zd_iconst C dX10_image_5 ?_
    refine zd_icmp_lt C ha (by decide) 11 dX10_image_6 (by decide) (fun c2 => ?_) (fun c2 => ?_)
    · have hF := hF.1 c2
      refine lv_aload_n C.1 C.2.1 dX10_image_11 rfl (lv_at hl 0 rfl) ?_
      refine zg10_1 C hH (zW_n hC) (zW_k hC) q_570 (zW_im hC).2.2 dX10_image_12 ?_
      refine lv_iload_n C.1 C.2.1 dX10_image_15 rfl (lv_at hl 1 rfl) ?_
      obtain ⟨o3, hF⟩ := hF
      refine zd_aaldr C hH (zW_n35 hC) 8 rfl rfl (by rw [(zW_im hC).1]; rfl) o3.1 (by rw [(zW_im hC).2.1]; exact o3.2) (by rw [(zW_im hC).2.1]; decide) (zW_imz hC o3.1 o3.2).1 dX10_image_16 ?_
      refine lv_aload_n C.1 C.2.1 dX10_image_17 rfl (lv_at hl 0 rfl) ?_
      refine zg10_0 C hH (zW_n hC) (zW_k hC) q_569 (zW_td hC).1 dX10_image_18 ?_
      obtain ⟨o4, hF⟩ := hF
      refine zgov (zrunV (As := [.ref (bs + (i + 1))]) (rest := []) C hE hH hS hl.1 (c_X9_copy (l := l) (zW_imz hC o3.1 o3.2).2 (zW_td hC).2  o4) k_RX10_106 ⟨Nat.le_of_ble_eq_true rfl, Nat.le_of_ble_eq_true rfl⟩ (zTold_n0 (zW_imz hC o3.1 o3.2).2.1) (zTold_k0 (zW_imz hC o3.1 o3.2).2.1) rfl rfl rfl (Nat.le_of_ble_eq_true rfl) dX10_image_21 ⟨Nat.zero_le _, Nat.zero_le _⟩) hS (fun X5 Yq Rq H locs hq hH hS => ?_)
      obtain ⟨h9Y, h9R, hq⟩ := hq
      dsimp only at h9Y h9R
      rw [h9Y, h9R] at hH
      have hF := hF X5 hH.2.2.1 hq
      refine lv_aload_n C.1 C.2.1 dX10_image_24 rfl (lv_at hl 0 rfl) ?_
      refine zg10_2 C hH (zW_n hC) (zW_k hC) q_571 (zW_bl hC).2.2 dX10_image_25 ?_
      refine lv_iload_n C.1 C.2.1 dX10_image_28 rfl (lv_at hl 1 rfl) ?_
      refine zd_iconst C dX10_image_29 ?_
      obtain ⟨o6, hF⟩ := hF
      refine zd_zast C hH hS (zW_n138 hC) (zW_bl hC).1 o6.1 (by rw [(zW_bl hC).2.1]; exact o6.2) (by rw [(zW_bl hC).2.1]; decide) (by decide) dX10_image_30 (fun H locs hH hS => ?_)
      obtain ⟨X7, eX7⟩ : ∃ z, z = zU X5 (i + 138) (a) (1) := ⟨_, rfl⟩
      rw [← eX7] at hH
      have hF := hF X7 eX7 hH.2.2.1
      refine zd_iconst C dX10_image_31 ?_
      exact zd_zret C hr hlk hH hS (by decide) (⟨rfl, rfl, _, rfl, hF⟩) dX10_image_32
    · have hF := hF.2 c2
      refine zd_iconst C dX10_image_9 ?_
      exact zd_zret C hr hlk hH hS (by decide) (⟨rfl, rfl, _, rfl, hF⟩) dX10_image_10
theorem v_X10_image {X Y : Nat → Int → Int} {R : Nat → Int → Option Nat} {i : Nat} (a : Int) (ha : rI a) (hp : ∀ y : Int, 0 ≤ y → y < 600 → -128 ≤ X (i + 2) y ∧ X (i + 2) y ≤ 127) : F_X10_image i X Y R a := by
  unfold F_X10_image
  intro hX hY
  refine ⟨?_, ?_⟩
  · intro c1
    exact ⟨(decide_eq_false (by omega)).symm, fun _ => rfl, (fun g => by cases g)⟩
  intro c2
  refine ⟨?_, ?_⟩
  · intro c3
    refine ⟨?_, ?_⟩
    · first | omega | exact ⟨by omega, by omega⟩ | decide | assumption | exact ⟨by omega, by omega, by omega⟩ | exact ⟨by decide, by decide⟩
    refine ⟨?_, ?_⟩
    · exact ⟨by omega, hp⟩
    intro X5
    intro rX5
    intro h1
    refine ⟨?_, ?_⟩
    · first | omega | exact ⟨by omega, by omega⟩ | decide | assumption | exact ⟨by omega, by omega, by omega⟩ | exact ⟨by decide, by decide⟩
    intro X7
    intro eX7
    intro rX7
    exact ⟨(decide_eq_true (by omega)).symm, (fun g => by cases g), fun _ => ⟨X5, h1, eX7⟩⟩
  intro c4
  exact ⟨(decide_eq_false (by omega)).symm, fun _ => rfl, (fun g => by cases g)⟩
theorem c_X10_image {l : Launch} {D : va_G} {cy : Nat → ClassId} {bs N : Nat} {sa : Nat → Nat} {kd len : Nat → Nat} {X Y : Nat → Int → Int} {R : Nat → Int → Option Nat} {i : Nat} (hC : zWC N kd len R i) (a : Int) (ha : rI a) (hp : ∀ y : Int, 0 ≤ y → y < 600 → -128 ≤ X (i + 2) y ∧ X (i + 2) y ≤ 127) : Met l yX10_image (.code yX10_image cX10_image 2 (some .boolean) :: zTB) (zRm 3 103) (zPc D cy bs sa N kd len X Y R [.ref (bs + (i)), .int (zI (a))]) (zQi D cy bs N kd len (fun r st => st.2.1 = Y ∧ st.2.2 = R ∧ ∃ rb : Bool, r = bz rb ∧ (rb = decide (0 ≤ (a) ∧ (a) < 3) ∧ (rb = false → (st.1) = X) ∧ (rb = true → ∃ X2, cpT X X2 (i + 36 + 34 * (a).toNat) (i + 1) ∧ (st.1) = zU X2 (i + 138) (a) 1)))) 0 0 (zA bs) := w_X10_image hC a ha (v_X10_image a ha hp)
abbrev cX10_again : ByteArray := prog_1_method_8_code
def yX10_again : MethodName := ⟨RX10, "again", "(I)Z"⟩
theorem dX10_again_0 : decode cX10_again 0 = .ok (.iload_n 1, 1) := by decide +kernel
theorem dX10_again_1 : decode cX10_again 1 = .ok (.ifCond .lt 17, 3) := by decide +kernel
theorem dX10_again_4 : decode cX10_again 4 = .ok (.iload_n 1, 1) := by decide +kernel
theorem dX10_again_5 : decode cX10_again 5 = .ok (.iconst 3, 1) := by decide +kernel
theorem dX10_again_6 : decode cX10_again 6 = .ok (.if_icmp .ge 12, 3) := by decide +kernel
theorem dX10_again_9 : decode cX10_again 9 = .ok (.aload_n 0, 1) := by decide +kernel
theorem dX10_again_10 : decode cX10_again 10 = .ok (.getfield 20, 3) := by decide +kernel
theorem dX10_again_13 : decode cX10_again 13 = .ok (.iload_n 1, 1) := by decide +kernel
theorem dX10_again_14 : decode cX10_again 14 = .ok (.baload, 1) := by decide +kernel
theorem dX10_again_15 : decode cX10_again 15 = .ok (.ifCond .ne 5, 3) := by decide +kernel
theorem dX10_again_18 : decode cX10_again 18 = .ok (.iconst 0, 1) := by decide +kernel
theorem dX10_again_19 : decode cX10_again 19 = .ok (.ireturn, 1) := by decide +kernel
theorem dX10_again_20 : decode cX10_again 20 = .ok (.aload_n 0, 1) := by decide +kernel
theorem dX10_again_21 : decode cX10_again 21 = .ok (.getfield 10, 3) := by decide +kernel
theorem dX10_again_24 : decode cX10_again 24 = .ok (.aload_n 0, 1) := by decide +kernel
theorem dX10_again_25 : decode cX10_again 25 = .ok (.getfield 16, 3) := by decide +kernel
theorem dX10_again_28 : decode cX10_again 28 = .ok (.iload_n 1, 1) := by decide +kernel
theorem dX10_again_29 : decode cX10_again 29 = .ok (.aaload, 1) := by decide +kernel
theorem dX10_again_30 : decode cX10_again 30 = .ok (.invokevirtual 106, 3) := by decide +kernel
theorem dX10_again_33 : decode cX10_again 33 = .ok (.iconst 1, 1) := by decide +kernel
theorem dX10_again_34 : decode cX10_again 34 = .ok (.ireturn, 1) := by decide +kernel
def F_X10_again (i : Nat) (X Y : Nat → Int → Int) (R : Nat → Int → Option Nat) (a : Int) : Prop := (∀ i j, rI (X i j)) → (∀ i j, rL (Y i j)) → ((a < 0) → (false = decide ((0 ≤ (a) ∧ (a) < 3) ∧ X (i + 138) (a) ≠ 0) ∧ (false = false → (X) = X) ∧ (false = true → cpT X (X) (i + 1) (i + 36 + 34 * (a).toNat)))) ∧ ((¬ (a < 0)) → (((3 ≤ a) → (false = decide ((0 ≤ (a) ∧ (a) < 3) ∧ X (i + 138) (a) ≠ 0) ∧ (false = false → (X) = X) ∧ (false = true → cpT X (X) (i + 1) (i + 36 + 34 * (a).toNat)))) ∧ ((¬ (3 ≤ a)) → ((0 ≤ a ∧ a < 3) ∧ (((¬ (X (i + 138) (a)) = 0) → ((0 ≤ a ∧ a < 3) ∧ ((((i + 36 + 34 * (a : Int).toNat) + 33 < (i + 1) ∨ (i + 1) + 33 < (i + 36 + 34 * (a : Int).toNat)) ∧ ∀ y : Int, 0 ≤ y → y < 600 → -128 ≤ X ((i + 36 + 34 * (a : Int).toNat) + 1) y ∧ X ((i + 36 + 34 * (a : Int).toNat) + 1) y ≤ 127) ∧ (∀ X7 : Nat → Int → Int, (∀ i j, rI (X7 i j)) → (cpT X (X7) (i + 1) (i + 36 + 34 * (a : Int).toNat)) → (true = decide ((0 ≤ (a) ∧ (a) < 3) ∧ X (i + 138) (a) ≠ 0) ∧ (true = false → (X7) = X) ∧ (true = true → cpT X (X7) (i + 1) (i + 36 + 34 * (a).toNat))))))) ∧ ((¬ (¬ (X (i + 138) (a)) = 0)) → (false = decide ((0 ≤ (a) ∧ (a) < 3) ∧ X (i + 138) (a) ≠ 0) ∧ (false = false → (X) = X) ∧ (false = true → cpT X (X) (i + 1) (i + 36 + 34 * (a).toNat)))))))))
set_option maxHeartbeats 4000000 in
set_option maxRecDepth 100000 in
theorem w_X10_again {l : Launch} {D : va_G} {cy : Nat → ClassId} {bs N : Nat} {sa : Nat → Nat} {kd len : Nat → Nat} {X Y : Nat → Int → Int} {R : Nat → Int → Option Nat} {i : Nat} (hC : zWC N kd len R i) (a : Int) (ha : rI a) (hF : F_X10_again i X Y R a) : Met l yX10_again (.code yX10_again cX10_again 2 (some .boolean) :: zTB) (zRm 3 103) (zPc D cy bs sa N kd len X Y R [.ref (bs + (i)), .int (zI (a))]) (zQi D cy bs N kd len (fun r st => st.2.1 = Y ∧ st.2.2 = R ∧ ∃ rb : Bool, r = bz rb ∧ (rb = decide ((0 ≤ (a) ∧ (a) < 3) ∧ X (i + 138) (a) ≠ 0) ∧ (rb = false → (st.1) = X) ∧ (rb = true → cpT X (st.1) (i + 1) (i + 36 + 34 * (a).toNat))))) 0 0 (zA bs) := by
  refine zstart (by decide) (Nat.le_of_ble_eq_true rfl) ?_
  intro p e s m args below meth c ls C hE hH hr hlk hnm hl hargs
  have hF := hF hH.2.2.1 hH.2.2.2
  have hS : va_S (zA bs) s.heap s.heap [] := va_S.rf
  have hl : lv_has ls 2 [(0, .ref (bs + (i))), (1, .int (zI (a)))] := hl
  refine lv_iload_n C.1 C.2.1 dX10_again_0 rfl (lv_at hl 1 rfl) ?_
  refine zd_if_lt C ha 18 dX10_again_1 (by decide) (fun c1 => ?_) (fun c1 => ?_)
  · have hF := hF.1 c1
    refine zd_iconst C dX10_again_18 ?_
    exact zd_zret C hr hlk hH hS (by decide) (⟨rfl, rfl, _, rfl, hF⟩) dX10_again_19
  · have hF := hF.2 c1
    refine lv_iload_n C.1 C.2.1 dX10_again_4 rfl (lv_at hl 1 rfl) ?_
    refine zd_iconst C dX10_again_5 ?_
    refine zd_icmp_ge C ha (by decide) 18 dX10_again_6 (by decide) (fun c2 => ?_) (fun c2 => ?_)
    · have hF := hF.1 c2
      refine zd_iconst C dX10_again_18 ?_
      exact zd_zret C hr hlk hH hS (by decide) (⟨rfl, rfl, _, rfl, hF⟩) dX10_again_19
    · have hF := hF.2 c2
      refine lv_aload_n C.1 C.2.1 dX10_again_9 rfl (lv_at hl 0 rfl) ?_
      refine zg10_2 C hH (zW_n hC) (zW_k hC) q_571 (zW_bl hC).2.2 dX10_again_10 ?_
      refine lv_iload_n C.1 C.2.1 dX10_again_13 rfl (lv_at hl 1 rfl) ?_
      obtain ⟨o3, hF⟩ := hF
      refine zd_zald C hH (zW_n138 hC) (zW_bl hC).1 o3.1 (by rw [(zW_bl hC).2.1]; exact o3.2) (by rw [(zW_bl hC).2.1]; decide) dX10_again_14 ?_
      refine zd_if_ne C (hH.2.2.1 _ _) 20 dX10_again_15 (by decide) (fun c4 => ?_) (fun c4 => ?_)
      · have hF := hF.1 c4
        refine lv_aload_n C.1 C.2.1 dX10_again_20 rfl (lv_at hl 0 rfl) ?_
        refine zg10_0 C hH (zW_n hC) (zW_k hC) q_569 (zW_td hC).1 dX10_again_21 ?_
        refine lv_aload_n C.1 C.2.1 dX10_again_24 rfl (lv_at hl 0 rfl) ?_
        refine zg10_1 C hH (zW_n hC) (zW_k hC) q_570 (zW_im hC).2.2 dX10_again_25 ?_
        refine lv_iload_n C.1 C.2.1 dX10_again_28 rfl (lv_at hl 1 rfl) ?_
        obtain ⟨o5, hF⟩ := hF
        refine zd_aaldr C hH (zW_n35 hC) 8 rfl rfl (by rw [(zW_im hC).1]; rfl) o5.1 (by rw [(zW_im hC).2.1]; exact o5.2) (by rw [(zW_im hC).2.1]; decide) (zW_imz hC o5.1 o5.2).1 dX10_again_29 ?_
        obtain ⟨o6, hF⟩ := hF
        refine zgov (zrunV (As := [.ref (bs + (i + 36 + 34 * (a : Int).toNat))]) (rest := []) C hE hH hS hl.1 (c_X9_copy (l := l) (zW_td hC).2 (zW_imz hC o5.1 o5.2).2  o6) k_RX10_106 ⟨Nat.le_of_ble_eq_true rfl, Nat.le_of_ble_eq_true rfl⟩ (zTold_n0 (zW_td hC).2.1) (zTold_k0 (zW_td hC).2.1) rfl rfl rfl (Nat.le_of_ble_eq_true rfl) dX10_again_30 ⟨Nat.zero_le _, Nat.zero_le _⟩) hS (fun X7 Yq Rq H locs hq hH hS => ?_)
        obtain ⟨h9Y, h9R, hq⟩ := hq
        dsimp only at h9Y h9R
        rw [h9Y, h9R] at hH
        have hF := hF X7 hH.2.2.1 hq
        refine zd_iconst C dX10_again_33 ?_
        exact zd_zret C hr hlk hH hS (by decide) (⟨rfl, rfl, _, rfl, hF⟩) dX10_again_34
      · have hF := hF.2 c4
        refine zd_iconst C dX10_again_18 ?_
        exact zd_zret C hr hlk hH hS (by decide) (⟨rfl, rfl, _, rfl, hF⟩) dX10_again_19
theorem v_X10_again {X Y : Nat → Int → Int} {R : Nat → Int → Option Nat} {i : Nat} (a : Int) (ha : rI a) (hp : ∀ z y : Int, 0 ≤ z → z < 3 → 0 ≤ y → y < 600 → -128 ≤ X (i + 36 + 34 * z.toNat + 1) y ∧ X (i + 36 + 34 * z.toNat + 1) y ≤ 127) : F_X10_again i X Y R a := by
  unfold F_X10_again
  intro hX hY
  refine ⟨?_, ?_⟩
  · intro c1
    exact ⟨(decide_eq_false (by omega)).symm, fun _ => rfl, (fun g => by cases g)⟩
  intro c2
  refine ⟨?_, ?_⟩
  · intro c3
    exact ⟨(decide_eq_false (by omega)).symm, fun _ => rfl, (fun g => by cases g)⟩
  intro c4
  refine ⟨?_, ?_⟩
  · first | omega | exact ⟨by omega, by omega⟩ | decide | assumption | exact ⟨by omega, by omega, by omega⟩ | exact ⟨by decide, by decide⟩
  refine ⟨?_, ?_⟩
  · intro c5
    refine ⟨?_, ?_⟩
    · first | omega | exact ⟨by omega, by omega⟩ | decide | assumption | exact ⟨by omega, by omega, by omega⟩ | exact ⟨by decide, by decide⟩
    refine ⟨?_, ?_⟩
    · exact ⟨by omega, fun y y0 y1 => hp a y (by omega) (by omega) y0 y1⟩
    intro X7
    intro rX7
    intro h1
    exact ⟨(decide_eq_true ⟨by omega, c5⟩).symm, (fun g => by cases g), fun _ => h1⟩
  intro c6
  exact ⟨(decide_eq_false (by omega)).symm, fun _ => rfl, (fun g => by cases g)⟩
theorem c_X10_again {l : Launch} {D : va_G} {cy : Nat → ClassId} {bs N : Nat} {sa : Nat → Nat} {kd len : Nat → Nat} {X Y : Nat → Int → Int} {R : Nat → Int → Option Nat} {i : Nat} (hC : zWC N kd len R i) (a : Int) (ha : rI a) (hp : ∀ z y : Int, 0 ≤ z → z < 3 → 0 ≤ y → y < 600 → -128 ≤ X (i + 36 + 34 * z.toNat + 1) y ∧ X (i + 36 + 34 * z.toNat + 1) y ≤ 127) : Met l yX10_again (.code yX10_again cX10_again 2 (some .boolean) :: zTB) (zRm 3 103) (zPc D cy bs sa N kd len X Y R [.ref (bs + (i)), .int (zI (a))]) (zQi D cy bs N kd len (fun r st => st.2.1 = Y ∧ st.2.2 = R ∧ ∃ rb : Bool, r = bz rb ∧ (rb = decide ((0 ≤ (a) ∧ (a) < 3) ∧ X (i + 138) (a) ≠ 0) ∧ (rb = false → (st.1) = X) ∧ (rb = true → cpT X (st.1) (i + 1) (i + 36 + 34 * (a).toNat))))) 0 0 (zA bs) := w_X10_again hC a ha (v_X10_again a ha hp)
