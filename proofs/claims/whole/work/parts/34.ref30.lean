/-! WITHHELD -/
def whN (tp : Int → Nat) : Nat → Int
  | 0 => -1
  | m + 1 => if (mOnes (2 * m) < 4 ∧ (whN tp m = -1 ∨ mOnes (2 * m) < mOnes (whN tp m))) ∧ tp (2 * m) ≠ tp 0 then 2 * m else whN tp m
theorem whN_b (tp : Int → Nat) : ∀ m : Nat, -1 ≤ whN tp m ∧ whN tp m < 2 * (m : Int)
  | 0 => ⟨by unfold whN; omega, by unfold whN; omega⟩
  | m + 1 => by
    have := whN_b tp m
    unfold whN
    split
    · exact ⟨by omega, by omega⟩
    · exact ⟨by omega, by omega⟩
theorem shl_2 : ∀ n : Nat, n ≤ 15 → zShl 1 n = ((2 ^ n : Nat) : Int) ∧ 2 ^ n ≤ 32768 ∧ (1 ≤ n → 2 * 2 ^ (n - 1) = 2 ^ n) := by decide +kernel
theorem wh_m {q M : Nat} (h : q < M) (hM : M ≤ 16384) : rI (2 * (q : Int) + 2) ∧ 2 * (q : Int) + 2 = 2 * ((q + 1 : Nat) : Int) ∧ (40000 - (2 * (q : Int) + 2)).toNat < (40000 - 2 * (q : Int)).toNat := ⟨⟨by omega, by omega⟩, by omega, by omega⟩
abbrev tpW (X : Nat → Int → Int) (i : Nat) : Int → Nat := fun s => rTip X i (mWo X i s)
abbrev cX11_withheld : ByteArray := prog_13_method_81_code
def yX11_withheld : MethodName := ⟨RX11, "withheld", "()I"⟩
theorem dX11_withheld_0 : decode cX11_withheld 0 = .ok (.aload_n 0, 1) := by decide +kernel
theorem dX11_withheld_1 : decode cX11_withheld 1 = .ok (.iconst 0, 1) := by decide +kernel
theorem dX11_withheld_2 : decode cX11_withheld 2 = .ok (.invokevirtual 420, 3) := by decide +kernel
theorem dX11_withheld_5 : decode cX11_withheld 5 = .ok (.istore_n 1, 1) := by decide +kernel
theorem dX11_withheld_6 : decode cX11_withheld 6 = .ok (.iconst (-1), 1) := by decide +kernel
theorem dX11_withheld_7 : decode cX11_withheld 7 = .ok (.istore_n 2, 1) := by decide +kernel
theorem dX11_withheld_8 : decode cX11_withheld 8 = .ok (.iconst 0, 1) := by decide +kernel
theorem dX11_withheld_9 : decode cX11_withheld 9 = .ok (.istore_n 3, 1) := by decide +kernel
theorem dX11_withheld_10 : decode cX11_withheld 10 = .ok (.iload_n 3, 1) := by decide +kernel
theorem dX11_withheld_11 : decode cX11_withheld 11 = .ok (.iconst 1, 1) := by decide +kernel
theorem dX11_withheld_12 : decode cX11_withheld 12 = .ok (.aload_n 0, 1) := by decide +kernel
theorem dX11_withheld_13 : decode cX11_withheld 13 = .ok (.getfield 255, 3) := by decide +kernel
theorem dX11_withheld_16 : decode cX11_withheld 16 = .ok (.ishl, 1) := by decide +kernel
theorem dX11_withheld_17 : decode cX11_withheld 17 = .ok (.if_icmp .ge 62, 3) := by decide +kernel
theorem dX11_withheld_20 : decode cX11_withheld 20 = .ok (.iload_n 3, 1) := by decide +kernel
theorem dX11_withheld_21 : decode cX11_withheld 21 = .ok (.invokestatic 385, 3) := by decide +kernel
theorem dX11_withheld_24 : decode cX11_withheld 24 = .ok (.istore 4, 2) := by decide +kernel
theorem dX11_withheld_26 : decode cX11_withheld 26 = .ok (.iload 4, 2) := by decide +kernel
theorem dX11_withheld_28 : decode cX11_withheld 28 = .ok (.iconst 4, 1) := by decide +kernel
theorem dX11_withheld_29 : decode cX11_withheld 29 = .ok (.if_icmp .ge 21, 3) := by decide +kernel
theorem dX11_withheld_32 : decode cX11_withheld 32 = .ok (.iload_n 2, 1) := by decide +kernel
theorem dX11_withheld_33 : decode cX11_withheld 33 = .ok (.iconst (-1), 1) := by decide +kernel
theorem dX11_withheld_34 : decode cX11_withheld 34 = .ok (.if_icmp .eq 12, 3) := by decide +kernel
theorem dX11_withheld_37 : decode cX11_withheld 37 = .ok (.iload 4, 2) := by decide +kernel
theorem dX11_withheld_39 : decode cX11_withheld 39 = .ok (.iload_n 2, 1) := by decide +kernel
theorem dX11_withheld_40 : decode cX11_withheld 40 = .ok (.invokestatic 385, 3) := by decide +kernel
theorem dX11_withheld_43 : decode cX11_withheld 43 = .ok (.if_icmp .ge 7, 3) := by decide +kernel
theorem dX11_withheld_46 : decode cX11_withheld 46 = .ok (.iconst 1, 1) := by decide +kernel
theorem dX11_withheld_47 : decode cX11_withheld 47 = .ok (.goto 4, 3) := by decide +kernel
theorem dX11_withheld_50 : decode cX11_withheld 50 = .ok (.iconst 0, 1) := by decide +kernel
theorem dX11_withheld_51 : decode cX11_withheld 51 = .ok (.istore 5, 2) := by decide +kernel
theorem dX11_withheld_53 : decode cX11_withheld 53 = .ok (.iload 5, 2) := by decide +kernel
theorem dX11_withheld_55 : decode cX11_withheld 55 = .ok (.ifCond .eq 16, 3) := by decide +kernel
theorem dX11_withheld_58 : decode cX11_withheld 58 = .ok (.aload_n 0, 1) := by decide +kernel
theorem dX11_withheld_59 : decode cX11_withheld 59 = .ok (.iload_n 3, 1) := by decide +kernel
theorem dX11_withheld_60 : decode cX11_withheld 60 = .ok (.invokevirtual 420, 3) := by decide +kernel
theorem dX11_withheld_63 : decode cX11_withheld 63 = .ok (.iload_n 1, 1) := by decide +kernel
theorem dX11_withheld_64 : decode cX11_withheld 64 = .ok (.if_icmp .eq 7, 3) := by decide +kernel
theorem dX11_withheld_67 : decode cX11_withheld 67 = .ok (.iload_n 3, 1) := by decide +kernel
theorem dX11_withheld_68 : decode cX11_withheld 68 = .ok (.goto 4, 3) := by decide +kernel
theorem dX11_withheld_71 : decode cX11_withheld 71 = .ok (.iload_n 2, 1) := by decide +kernel
theorem dX11_withheld_72 : decode cX11_withheld 72 = .ok (.istore_n 2, 1) := by decide +kernel
theorem dX11_withheld_73 : decode cX11_withheld 73 = .ok (.iinc 3 2, 3) := by decide +kernel
theorem dX11_withheld_76 : decode cX11_withheld 76 = .ok (.goto (-66), 3) := by decide +kernel
theorem dX11_withheld_79 : decode cX11_withheld 79 = .ok (.iload_n 2, 1) := by decide +kernel
theorem dX11_withheld_80 : decode cX11_withheld 80 = .ok (.ireturn, 1) := by decide +kernel
def F_X11_withheld (i : Nat) (X Y : Nat → Int → Int) (R : Nat → Int → Option Nat)  : Prop := (∀ i j, rI (X i j)) → (∀ i j, rL (Y i j)) → (oH X Y i) ∧ (∀ r4 : Int, rI r4 → ∀ X2 : Nat → Int → Int, (∀ i j, rI (X2 i j)) → ∀ Y3 : Nat → Int → Int, (∀ i j, rL (Y3 i j)) → (r4 = ((rTip X i (mWo X i ((0 : Int))) : Nat) : Int) ∧ tW X (X2) i ∧ wK (X2) i (mWo X i ((0 : Int))) (X i 27).toNat ∧ ∀ a, a ≠ i + 18 → (Y3) a = Y a) → ((∃ q : Nat, (0 : Int) = 2 * (q : Int) ∧ q ≤ 2 ^ ((X i 27).toNat - 1) ∧ (-1 : Int) = whN (tpW X i) q ∧ tW X X2 i ∧ ∀ a, a ≠ i + 18 → Y3 a = Y a) ∧ (∀ (best : Int) (k : Int) (X6 : Nat → Int → Int) (Y7 : Nat → Int → Int), rI best → rI k → (∀ i j, rI (X6 i j)) → (∀ i j, rL (Y7 i j)) → (∃ q : Nat, k = 2 * (q : Int) ∧ q ≤ 2 ^ ((X i 27).toNat - 1) ∧ best = whN (tpW X i) q ∧ tW X X6 i ∧ ∀ a, a ≠ i + 18 → Y7 a = Y a) → ((((zShl (1) (X6 (i) 27)) ≤ k) → (best = whN (tpW X i) (2 ^ ((X i 27).toNat - 1)) ∧ tW X (X6) i ∧ ∀ a, a ≠ i + 18 → (Y7) a = Y a)) ∧ ((¬ ((zShl (1) (X6 (i) 27)) ≤ k)) → (rI (mOnes (k)) → (((4 ≤ (mOnes (k))) → ((rI (k + 2)) ∧ (∃ q : Nat, k + 2 = 2 * (q : Int) ∧ q ≤ 2 ^ ((X i 27).toNat - 1) ∧ best = whN (tpW X i) q ∧ tW X X6 i ∧ ∀ a, a ≠ i + 18 → Y7 a = Y a) ∧ (((40000 - (k + 2)).toNat) < ((40000 - (k)).toNat)))) ∧ ((¬ (4 ≤ (mOnes (k)))) → (((best = (-1)) → ((oH X6 Y7 i) ∧ (∀ r18 : Int, rI r18 → ∀ X16 : Nat → Int → Int, (∀ i j, rI (X16 i j)) → ∀ Y17 : Nat → Int → Int, (∀ i j, rL (Y17 i j)) → (r18 = ((rTip X6 i (mWo X6 i (k)) : Nat) : Int) ∧ tW X6 (X16) i ∧ wK (X16) i (mWo X6 i (k)) (X6 i 27).toNat ∧ ∀ a, a ≠ i + 18 → (Y17) a = Y7 a) → (((r18 = r4) → ((rI (k + 2)) ∧ (∃ q : Nat, k + 2 = 2 * (q : Int) ∧ q ≤ 2 ^ ((X i 27).toNat - 1) ∧ best = whN (tpW X i) q ∧ tW X X16 i ∧ ∀ a, a ≠ i + 18 → Y17 a = Y a) ∧ (((40000 - (k + 2)).toNat) < ((40000 - (k)).toNat)))) ∧ ((¬ (r18 = r4)) → ((rI (k + 2)) ∧ (∃ q : Nat, k + 2 = 2 * (q : Int) ∧ q ≤ 2 ^ ((X i 27).toNat - 1) ∧ k = whN (tpW X i) q ∧ tW X X16 i ∧ ∀ a, a ≠ i + 18 → Y17 a = Y a) ∧ (((40000 - (k + 2)).toNat) < ((40000 - (k)).toNat)))))))) ∧ ((¬ (best = (-1))) → (rI (mOnes (best)) → ((((mOnes (best)) ≤ (mOnes (k))) → ((rI (k + 2)) ∧ (∃ q : Nat, k + 2 = 2 * (q : Int) ∧ q ≤ 2 ^ ((X i 27).toNat - 1) ∧ best = whN (tpW X i) q ∧ tW X X6 i ∧ ∀ a, a ≠ i + 18 → Y7 a = Y a) ∧ (((40000 - (k + 2)).toNat) < ((40000 - (k)).toNat)))) ∧ ((¬ ((mOnes (best)) ≤ (mOnes (k)))) → ((oH X6 Y7 i) ∧ (∀ r30 : Int, rI r30 → ∀ X28 : Nat → Int → Int, (∀ i j, rI (X28 i j)) → ∀ Y29 : Nat → Int → Int, (∀ i j, rL (Y29 i j)) → (r30 = ((rTip X6 i (mWo X6 i (k)) : Nat) : Int) ∧ tW X6 (X28) i ∧ wK (X28) i (mWo X6 i (k)) (X6 i 27).toNat ∧ ∀ a, a ≠ i + 18 → (Y29) a = Y7 a) → (((r30 = r4) → ((rI (k + 2)) ∧ (∃ q : Nat, k + 2 = 2 * (q : Int) ∧ q ≤ 2 ^ ((X i 27).toNat - 1) ∧ best = whN (tpW X i) q ∧ tW X X28 i ∧ ∀ a, a ≠ i + 18 → Y29 a = Y a) ∧ (((40000 - (k + 2)).toNat) < ((40000 - (k)).toNat)))) ∧ ((¬ (r30 = r4)) → ((rI (k + 2)) ∧ (∃ q : Nat, k + 2 = 2 * (q : Int) ∧ q ≤ 2 ^ ((X i 27).toNat - 1) ∧ k = whN (tpW X i) q ∧ tW X X28 i ∧ ∀ a, a ≠ i + 18 → Y29 a = Y a) ∧ (((40000 - (k + 2)).toNat) < ((40000 - (k)).toNat))))))))))))))))))))
set_option maxHeartbeats 4000000 in
set_option maxRecDepth 100000 in
theorem w_X11_withheld {l : Launch} {D : va_G} {cy : Nat → ClassId} {bs N : Nat} {sa : Nat → Nat} {kd len : Nat → Nat} {X Y : Nat → Int → Int} {R : Nat → Int → Option Nat} {i : Nat} (hM : zM N kd len R i)  (hF : F_X11_withheld i X Y R ) : Met l yX11_withheld (.code yX11_withheld cX11_withheld 6 (some .int) :: zTB) (zRm 5 111) (zPc D cy bs sa N kd len X Y R [.ref (bs + (i))]) (zQi D cy bs N kd len (fun r st => st.2.2 = R ∧ (r = whN (tpW X i) (2 ^ ((X i 27).toNat - 1)) ∧ tW X (st.1) i ∧ ∀ a, a ≠ i + 18 → (st.2.1) a = Y a))) 0 0 (zA bs) := by
  refine zstart (by decide) (Nat.le_of_ble_eq_true rfl) ?_
  intro p e s m args below meth c ls C hE hH hr hlk hnm hl hargs
  have hF := hF hH.2.2.1 hH.2.2.2
  have hS : va_S (zA bs) s.heap s.heap [] := va_S.rf
  have hl : lv_has ls 6 [(0, .ref (bs + (i)))] := hl
  refine lv_aload_n C.1 C.2.1 dX11_withheld_0 rfl (lv_at hl 0 rfl) ?_
  refine zd_iconst C dX11_withheld_1 ?_
  obtain ⟨o1, hF⟩ := hF
  refine zgoi (zrunV (As := [.int (zI (0))]) (rest := []) C hE hH hS hl.1 (c_X11_tipWithout (l := l) hM (0) (by decide) o1) k_RX11_420 ⟨Nat.le_of_ble_eq_true rfl, Nat.le_of_ble_eq_true rfl⟩ (zM_n0 hM) (zM_k0 hM) rfl rfl rfl (Nat.le_of_ble_eq_true rfl) dX11_withheld_2 ⟨Nat.zero_le _, Nat.zero_le _⟩) hS (fun r4 X2 Y3 Rq H locs hrq hq hH hS => ?_)
  obtain ⟨h9R, hq⟩ := hq
  dsimp only at h9R
  rw [h9R] at hH
  have hr4 := hrq
  have hF := hF r4 hrq X2 hH.2.2.1 Y3 hH.2.2.2 hq
  refine lv_istore_n (lv' := [(1, .int (zI (r4))), (0, .ref (bs + (i)))]) C.1 C.2.1 dX11_withheld_5 rfl hl (by decide) rfl (fun ls hl => ?_)
  refine zd_iconst C dX11_withheld_6 ?_
  refine lv_istore_n (lv' := [(2, .int (zI ((-1)))), (1, .int (zI (r4))), (0, .ref (bs + (i)))]) C.1 C.2.1 dX11_withheld_7 rfl hl (by decide) rfl (fun ls hl => ?_)
  refine zd_iconst C dX11_withheld_8 ?_
  refine lv_istore_n (lv' := [(3, .int (zI (0))), (2, .int (zI ((-1)))), (1, .int (zI (r4))), (0, .ref (bs + (i)))]) C.1 C.2.1 dX11_withheld_9 rfl hl (by decide) rfl (fun ls hl => ?_)
  obtain ⟨hI5, hF⟩ := hF
  have L5 : ∀ (fu : Nat) (best : Int) (k : Int) (X6 : Nat → Int → Int) (Y7 : Nat → Int → Int), rI best → rI k → (∃ q : Nat, k = 2 * (q : Int) ∧ q ≤ 2 ^ ((X i 27).toNat - 1) ∧ best = whN (tpW X i) q ∧ tW X X6 i ∧ ∀ a, a ≠ i + 18 → Y7 a = Y a) → ((40000 - (k)).toNat) < fu → ∀ (H : Heap) (locs : List Loc) (ls : Array Slot), zH D cy bs N kd len X6 Y7 R H → va_S (zA bs) s.heap H locs → lv_has ls 6 [(2, .int (zI (best))), (3, .int (zI (k))), (1, .int (zI (r4))), (0, .ref (bs + (i)))] → W p l e (zRm 5 111) s m args below meth c H locs 0 0 (MQ below (zQi D cy bs N kd len (fun r st => st.2.2 = R ∧ (r = whN (tpW X i) (2 ^ ((X i 27).toNat - 1)) ∧ tW X (st.1) i ∧ ∀ a, a ≠ i + 18 → (st.2.1) a = Y a))) args s 0 0 (zA bs)) (F0 m 10 ls []) := by
    intro fu
    induction fu with
    | zero => intro best k X6 Y7 _ _ _ hmu; exact absurd hmu (Nat.not_lt_zero _)
    | succ fu ih5 =>
      intro best k X6 Y7 hbest hk hI hmu5 H locs ls hH hS hl
      have hF := hF best k X6 Y7 hbest hk hH.2.2.1 hH.2.2.2 hI
      refine lv_iload_n C.1 C.2.1 dX11_withheld_10 rfl (lv_at hl 1 rfl) ?_
      refine zd_iconst C dX11_withheld_11 ?_
      refine lv_aload_n C.1 C.2.1 dX11_withheld_12 rfl (lv_at hl 3 rfl) ?_
      refine zg11_27 C hH (zM_n0 hM) (zM_k0 hM) q_1314 dX11_withheld_13 ?_
      refine zd_ishl C dX11_withheld_16 ?_
      refine zd_icmp_ge C hk (zI_rg _) 79 dX11_withheld_17 (by decide) (fun c8 => ?_) (fun c8 => ?_)
      · have hF := hF.1 c8
        refine lv_iload_n C.1 C.2.1 dX11_withheld_79 rfl (lv_at hl 0 rfl) ?_
        exact zd_iret C hr hlk hH hS hbest (⟨rfl, hF⟩) dX11_withheld_80
      · have hF := hF.2 c8
        refine lv_iload_n C.1 C.2.1 dX11_withheld_20 rfl (lv_at hl 1 rfl) ?_
        refine zgoi (zrunS (As := [.int (zI (k))]) (rest := []) C hE hH hS hl.1 (c_X11_ones (l := l)  (k) hk) k_RX11_385 ⟨Nat.le_of_ble_eq_true rfl, Nat.le_of_ble_eq_true rfl⟩ rfl (Nat.le_of_ble_eq_true rfl) dX11_withheld_21 ⟨Nat.zero_le _, Nat.zero_le _⟩) hS (fun rq Xq Yq Rq H locs hrq hq hH hS => ?_)
        obtain ⟨h91, h92⟩ := hq
        have h93 : Xq = X6 := congrArg (fun z => z.1) h92
        have h94 : Yq = Y7 := congrArg (fun z => z.2.1) h92
        have h95 : Rq = R := congrArg (fun z => z.2.2) h92
        rw [h93, h94, h95] at hH
        subst h91
        have hr9 := hrq
        have hF := hF hr9
        refine lv_istore (lv' := [(4, .int (zI (mOnes (k)))), (2, .int (zI (best))), (3, .int (zI (k))), (1, .int (zI (r4))), (0, .ref (bs + (i)))]) C.1 C.2.1 dX11_withheld_24 hl (by decide) rfl (fun ls hl => ?_)
        refine lv_iload C.1 C.2.1 dX11_withheld_26 (lv_at hl 0 rfl) ?_
        refine zd_iconst C dX11_withheld_28 ?_
        refine zd_icmp_ge C hr9 (by decide) 50 dX11_withheld_29 (by decide) (fun c10 => ?_) (fun c10 => ?_)
        · have hF := hF.1 c10
          refine zd_iconst C dX11_withheld_50 ?_
          refine lv_istore (lv' := [(5, .int (zI (0))), (4, .int (zI (mOnes (k)))), (2, .int (zI (best))), (3, .int (zI (k))), (1, .int (zI (r4))), (0, .ref (bs + (i)))]) C.1 C.2.1 dX11_withheld_51 hl (by decide) rfl (fun ls hl => ?_)
          refine lv_iload C.1 C.2.1 dX11_withheld_53 (lv_at hl 0 rfl) ?_
          refine zd_if_eq C (by decide) 71 dX11_withheld_55 (by decide) (fun c11 => ?_) (fun c11 => ?_)
          · refine lv_iload_n C.1 C.2.1 dX11_withheld_71 rfl (lv_at hl 2 rfl) ?_
            refine lv_istore_n (lv' := [(2, .int (zI (best))), (5, .int (zI (0))), (4, .int (zI (mOnes (k)))), (3, .int (zI (k))), (1, .int (zI (r4))), (0, .ref (bs + (i)))]) C.1 C.2.1 dX11_withheld_72 rfl hl (by decide) rfl (fun ls hl => ?_)
            refine zd_iinc (k := 3) (lv' := [(3, .int (zI (k + 2))), (2, .int (zI (best))), (5, .int (zI (0))), (4, .int (zI (mOnes (k)))), (1, .int (zI (r4))), (0, .ref (bs + (i)))]) C hl rfl dX11_withheld_73 (by decide) rfl (fun ls hl => ?_)
            refine lv_goto (tgt := 10) C.1 C.2.1 dX11_withheld_76 (by decide) ?_
            obtain ⟨o12, hF⟩ := hF
            exact ih5 (best) (k + 2) X6 Y7 hbest o12 hF.1 (Nat.lt_of_lt_of_le hF.2 (Nat.le_of_lt_succ hmu5)) _ _ _ hH hS (lv_sub hl [1, 0, 4, 5] rfl)
          · exact absurd (by decide) c11
        · have hF := hF.2 c10
          refine lv_iload_n C.1 C.2.1 dX11_withheld_32 rfl (lv_at hl 1 rfl) ?_
          refine zd_iconst C dX11_withheld_33 ?_
          refine zd_icmp_eq C hbest (by decide) 46 dX11_withheld_34 (by decide) (fun c13 => ?_) (fun c13 => ?_)
          · have hF := hF.1 c13
            refine zd_iconst C dX11_withheld_46 ?_
            refine lv_goto (tgt := 51) C.1 C.2.1 dX11_withheld_47 (by decide) ?_
            refine lv_istore (lv' := [(5, .int (zI (1))), (4, .int (zI (mOnes (k)))), (2, .int (zI (best))), (3, .int (zI (k))), (1, .int (zI (r4))), (0, .ref (bs + (i)))]) C.1 C.2.1 dX11_withheld_51 hl (by decide) rfl (fun ls hl => ?_)
            refine lv_iload C.1 C.2.1 dX11_withheld_53 (lv_at hl 0 rfl) ?_
            refine zd_if_eq C (by decide) 71 dX11_withheld_55 (by decide) (fun c14 => ?_) (fun c14 => ?_)
            · exact absurd c14 (by decide)
            · refine lv_aload_n C.1 C.2.1 dX11_withheld_58 rfl (lv_at hl 5 rfl) ?_
              refine lv_iload_n C.1 C.2.1 dX11_withheld_59 rfl (lv_at hl 3 rfl) ?_
              obtain ⟨o15, hF⟩ := hF
              refine zgoi (zrunV (As := [.int (zI (k))]) (rest := []) C hE hH hS hl.1 (c_X11_tipWithout (l := l) hM (k) hk o15) k_RX11_420 ⟨Nat.le_of_ble_eq_true rfl, Nat.le_of_ble_eq_true rfl⟩ (zM_n0 hM) (zM_k0 hM) rfl rfl rfl (Nat.le_of_ble_eq_true rfl) dX11_withheld_60 ⟨Nat.zero_le _, Nat.zero_le _⟩) hS (fun r18 X16 Y17 Rq H locs hrq hq hH hS => ?_)
              obtain ⟨h9R, hq⟩ := hq
              dsimp only at h9R
              rw [h9R] at hH
              have hr18 := hrq
              have hF := hF r18 hrq X16 hH.2.2.1 Y17 hH.2.2.2 hq
              refine lv_iload_n C.1 C.2.1 dX11_withheld_63 rfl (lv_at hl 4 rfl) ?_
              refine zd_icmp_eq C hr18 hr4 71 dX11_withheld_64 (by decide) (fun c19 => ?_) (fun c19 => ?_)
              · have hF := hF.1 c19
                refine lv_iload_n C.1 C.2.1 dX11_withheld_71 rfl (lv_at hl 2 rfl) ?_
                refine lv_istore_n (lv' := [(2, .int (zI (best))), (5, .int (zI (1))), (4, .int (zI (mOnes (k)))), (3, .int (zI (k))), (1, .int (zI (r4))), (0, .ref (bs + (i)))]) C.1 C.2.1 dX11_withheld_72 rfl hl (by decide) rfl (fun ls hl => ?_)
                refine zd_iinc (k := 3) (lv' := [(3, .int (zI (k + 2))), (2, .int (zI (best))), (5, .int (zI (1))), (4, .int (zI (mOnes (k)))), (1, .int (zI (r4))), (0, .ref (bs + (i)))]) C hl rfl dX11_withheld_73 (by decide) rfl (fun ls hl => ?_)
                refine lv_goto (tgt := 10) C.1 C.2.1 dX11_withheld_76 (by decide) ?_
                obtain ⟨o20, hF⟩ := hF
                exact ih5 (best) (k + 2) X16 Y17 hbest o20 hF.1 (Nat.lt_of_lt_of_le hF.2 (Nat.le_of_lt_succ hmu5)) _ _ _ hH hS (lv_sub hl [1, 0, 4, 5] rfl)
              · have hF := hF.2 c19
                refine lv_iload_n C.1 C.2.1 dX11_withheld_67 rfl (lv_at hl 3 rfl) ?_
                refine lv_goto (tgt := 72) C.1 C.2.1 dX11_withheld_68 (by decide) ?_
                refine lv_istore_n (lv' := [(2, .int (zI (k))), (5, .int (zI (1))), (4, .int (zI (mOnes (k)))), (3, .int (zI (k))), (1, .int (zI (r4))), (0, .ref (bs + (i)))]) C.1 C.2.1 dX11_withheld_72 rfl hl (by decide) rfl (fun ls hl => ?_)
                refine zd_iinc (k := 3) (lv' := [(3, .int (zI (k + 2))), (2, .int (zI (k))), (5, .int (zI (1))), (4, .int (zI (mOnes (k)))), (1, .int (zI (r4))), (0, .ref (bs + (i)))]) C hl rfl dX11_withheld_73 (by decide) rfl (fun ls hl => ?_)
                refine lv_goto (tgt := 10) C.1 C.2.1 dX11_withheld_76 (by decide) ?_
                obtain ⟨o21, hF⟩ := hF
                exact ih5 (k) (k + 2) X16 Y17 hk o21 hF.1 (Nat.lt_of_lt_of_le hF.2 (Nat.le_of_lt_succ hmu5)) _ _ _ hH hS (lv_sub hl [1, 0, 4, 5] rfl)
          · have hF := hF.2 c13
            refine lv_iload C.1 C.2.1 dX11_withheld_37 (lv_at hl 0 rfl) ?_
            refine lv_iload_n C.1 C.2.1 dX11_withheld_39 rfl (lv_at hl 1 rfl) ?_
            refine zgoi (zrunS (As := [.int (zI (best))]) (rest := [.int (zI (mOnes (k)))]) C hE hH hS hl.1 (c_X11_ones (l := l)  (best) hbest) k_RX11_385 ⟨Nat.le_of_ble_eq_true rfl, Nat.le_of_ble_eq_true rfl⟩ rfl (Nat.le_of_ble_eq_true rfl) dX11_withheld_40 ⟨Nat.zero_le _, Nat.zero_le _⟩) hS (fun rq Xq Yq Rq H locs hrq hq hH hS => ?_)
            obtain ⟨h91, h92⟩ := hq
            have h93 : Xq = X6 := congrArg (fun z => z.1) h92
            have h94 : Yq = Y7 := congrArg (fun z => z.2.1) h92
            have h95 : Rq = R := congrArg (fun z => z.2.2) h92
            rw [h93, h94, h95] at hH
            subst h91
            have hr22 := hrq
            have hF := hF hr22
            refine zd_icmp_ge C hr9 hr22 50 dX11_withheld_43 (by decide) (fun c23 => ?_) (fun c23 => ?_)
            · have hF := hF.1 c23
              refine zd_iconst C dX11_withheld_50 ?_
              refine lv_istore (lv' := [(5, .int (zI (0))), (4, .int (zI (mOnes (k)))), (2, .int (zI (best))), (3, .int (zI (k))), (1, .int (zI (r4))), (0, .ref (bs + (i)))]) C.1 C.2.1 dX11_withheld_51 hl (by decide) rfl (fun ls hl => ?_)
              refine lv_iload C.1 C.2.1 dX11_withheld_53 (lv_at hl 0 rfl) ?_
              refine zd_if_eq C (by decide) 71 dX11_withheld_55 (by decide) (fun c24 => ?_) (fun c24 => ?_)
              · refine lv_iload_n C.1 C.2.1 dX11_withheld_71 rfl (lv_at hl 2 rfl) ?_
                refine lv_istore_n (lv' := [(2, .int (zI (best))), (5, .int (zI (0))), (4, .int (zI (mOnes (k)))), (3, .int (zI (k))), (1, .int (zI (r4))), (0, .ref (bs + (i)))]) C.1 C.2.1 dX11_withheld_72 rfl hl (by decide) rfl (fun ls hl => ?_)
                refine zd_iinc (k := 3) (lv' := [(3, .int (zI (k + 2))), (2, .int (zI (best))), (5, .int (zI (0))), (4, .int (zI (mOnes (k)))), (1, .int (zI (r4))), (0, .ref (bs + (i)))]) C hl rfl dX11_withheld_73 (by decide) rfl (fun ls hl => ?_)
                refine lv_goto (tgt := 10) C.1 C.2.1 dX11_withheld_76 (by decide) ?_
                obtain ⟨o25, hF⟩ := hF
                exact ih5 (best) (k + 2) X6 Y7 hbest o25 hF.1 (Nat.lt_of_lt_of_le hF.2 (Nat.le_of_lt_succ hmu5)) _ _ _ hH hS (lv_sub hl [1, 0, 4, 5] rfl)
              · exact absurd (by decide) c24
            · have hF := hF.2 c23
              refine zd_iconst C dX11_withheld_46 ?_
              refine lv_goto (tgt := 51) C.1 C.2.1 dX11_withheld_47 (by decide) ?_
              refine lv_istore (lv' := [(5, .int (zI (1))), (4, .int (zI (mOnes (k)))), (2, .int (zI (best))), (3, .int (zI (k))), (1, .int (zI (r4))), (0, .ref (bs + (i)))]) C.1 C.2.1 dX11_withheld_51 hl (by decide) rfl (fun ls hl => ?_)
              refine lv_iload C.1 C.2.1 dX11_withheld_53 (lv_at hl 0 rfl) ?_
              refine zd_if_eq C (by decide) 71 dX11_withheld_55 (by decide) (fun c26 => ?_) (fun c26 => ?_)
              · exact absurd c26 (by decide)
              · refine lv_aload_n C.1 C.2.1 dX11_withheld_58 rfl (lv_at hl 5 rfl) ?_
                refine lv_iload_n C.1 C.2.1 dX11_withheld_59 rfl (lv_at hl 3 rfl) ?_
                obtain ⟨o27, hF⟩ := hF
                refine zgoi (zrunV (As := [.int (zI (k))]) (rest := []) C hE hH hS hl.1 (c_X11_tipWithout (l := l) hM (k) hk o27) k_RX11_420 ⟨Nat.le_of_ble_eq_true rfl, Nat.le_of_ble_eq_true rfl⟩ (zM_n0 hM) (zM_k0 hM) rfl rfl rfl (Nat.le_of_ble_eq_true rfl) dX11_withheld_60 ⟨Nat.zero_le _, Nat.zero_le _⟩) hS (fun r30 X28 Y29 Rq H locs hrq hq hH hS => ?_)
                obtain ⟨h9R, hq⟩ := hq
                dsimp only at h9R
                rw [h9R] at hH
                have hr30 := hrq
                have hF := hF r30 hrq X28 hH.2.2.1 Y29 hH.2.2.2 hq
                refine lv_iload_n C.1 C.2.1 dX11_withheld_63 rfl (lv_at hl 4 rfl) ?_
                refine zd_icmp_eq C hr30 hr4 71 dX11_withheld_64 (by decide) (fun c31 => ?_) (fun c31 => ?_)
                · have hF := hF.1 c31
                  refine lv_iload_n C.1 C.2.1 dX11_withheld_71 rfl (lv_at hl 2 rfl) ?_
                  refine lv_istore_n (lv' := [(2, .int (zI (best))), (5, .int (zI (1))), (4, .int (zI (mOnes (k)))), (3, .int (zI (k))), (1, .int (zI (r4))), (0, .ref (bs + (i)))]) C.1 C.2.1 dX11_withheld_72 rfl hl (by decide) rfl (fun ls hl => ?_)
                  refine zd_iinc (k := 3) (lv' := [(3, .int (zI (k + 2))), (2, .int (zI (best))), (5, .int (zI (1))), (4, .int (zI (mOnes (k)))), (1, .int (zI (r4))), (0, .ref (bs + (i)))]) C hl rfl dX11_withheld_73 (by decide) rfl (fun ls hl => ?_)
                  refine lv_goto (tgt := 10) C.1 C.2.1 dX11_withheld_76 (by decide) ?_
                  obtain ⟨o32, hF⟩ := hF
                  exact ih5 (best) (k + 2) X28 Y29 hbest o32 hF.1 (Nat.lt_of_lt_of_le hF.2 (Nat.le_of_lt_succ hmu5)) _ _ _ hH hS (lv_sub hl [1, 0, 4, 5] rfl)
                · have hF := hF.2 c31
                  refine lv_iload_n C.1 C.2.1 dX11_withheld_67 rfl (lv_at hl 3 rfl) ?_
                  refine lv_goto (tgt := 72) C.1 C.2.1 dX11_withheld_68 (by decide) ?_
                  refine lv_istore_n (lv' := [(2, .int (zI (k))), (5, .int (zI (1))), (4, .int (zI (mOnes (k)))), (3, .int (zI (k))), (1, .int (zI (r4))), (0, .ref (bs + (i)))]) C.1 C.2.1 dX11_withheld_72 rfl hl (by decide) rfl (fun ls hl => ?_)
                  refine zd_iinc (k := 3) (lv' := [(3, .int (zI (k + 2))), (2, .int (zI (k))), (5, .int (zI (1))), (4, .int (zI (mOnes (k)))), (1, .int (zI (r4))), (0, .ref (bs + (i)))]) C hl rfl dX11_withheld_73 (by decide) rfl (fun ls hl => ?_)
                  refine lv_goto (tgt := 10) C.1 C.2.1 dX11_withheld_76 (by decide) ?_
                  obtain ⟨o33, hF⟩ := hF
                  exact ih5 (k) (k + 2) X28 Y29 hk o33 hF.1 (Nat.lt_of_lt_of_le hF.2 (Nat.le_of_lt_succ hmu5)) _ _ _ hH hS (lv_sub hl [1, 0, 4, 5] rfl)
  exact L5 (((40000 - ((0 : Int))).toNat) + 1) ((-1 : Int)) ((0 : Int)) X2 Y3 (by decide) (by decide) hI5 (Nat.lt_succ_self _) _ _ _ hH hS (lv_sub hl [1, 0, 2, 3] rfl)
theorem v_X11_withheld {X Y : Nat → Int → Int} {R : Nat → Int → Option Nat} {i : Nat}  (hp : oH X Y i) : F_X11_withheld i X Y R  := by
  unfold F_X11_withheld
  intro hX hY
  have h := hp
  have h27 := h.1.2.2.1
  have sh := shl_2 (X i 27).toNat (by omega)
  rw [show (((X i 27).toNat : Nat) : Int) = X i 27 by omega] at sh
  have sh3 := sh.2.2 (by omega)
  refine ⟨h, fun r4 r4r X2 x2r Y3 y3r hq => ?_⟩
  obtain ⟨e4, t2, -, y2⟩ := hq
  generalize hM : 2 ^ ((X i 27).toNat - 1) = M at sh3 ⊢
  refine ⟨⟨0, rfl, Nat.zero_le _, rfl, t2, y2⟩, fun best k X6 Y7 br kr x6r y7r hI => ?_⟩
  obtain ⟨q, hq, qM, hb, t6, y6⟩ := hI
  subst hq
  have s27 : X6 i 27 = X i 27 := t6.2 27 (by decide) (by decide)
  have s28 : X6 i 28 = X i 28 := t6.2 28 (by decide) (by decide)
  have f6 : fK X X6 Y Y7 i := ⟨t6.1, fun s hs => t6.2 s (by omega) (by omega), y6⟩
  have h6 := oH_f f6 (by rw [s28]; exact h.2.1.1) h
  rw [s27, sh.1]
  have shM : ((2 ^ (X i 27).toNat : Nat) : Int) = 2 * (M : Int) := by omega
  rw [shM]
  have bb := whN_b (tpW X i) q
  rw [← hb] at bb
  refine ⟨fun c => ?_, fun c _ => ?_⟩
  · have e : q = M := by omega
    subst e
    exact ⟨hb, t6, y6⟩
  have qM1 : q + 1 ≤ M := by omega
  have wm := wh_m (q := q) (M := M) qM1 (by omega)
  clear sh shM sh3 hM
  have st : whN (tpW X i) (q + 1) = if (mOnes (2 * (q : Int)) < 4 ∧ (whN (tpW X i) q = -1 ∨ mOnes (2 * (q : Int)) < mOnes (whN (tpW X i) q))) ∧ tpW X i (2 * (q : Int)) ≠ tpW X i 0 then 2 * (q : Int) else whN (tpW X i) q := rfl
  rw [← hb] at st
  have e4 : r4 = ((tpW X i 0 : Nat) : Int) := e4
  have stay : ¬ ((mOnes (2 * (q : Int)) < 4 ∧ (best = -1 ∨ mOnes (2 * (q : Int)) < mOnes best)) ∧ tpW X i (2 * (q : Int)) ≠ tpW X i 0) → ∀ X9 Y9 : Nat → Int → Int, tW X X9 i → (∀ a, a ≠ i + 18 → Y9 a = Y a) → (rI (2 * (q : Int) + 2)) ∧ (∃ q1 : Nat, 2 * (q : Int) + 2 = 2 * (q1 : Int) ∧ q1 ≤ M ∧ best = whN (tpW X i) q1 ∧ tW X X9 i ∧ ∀ a, a ≠ i + 18 → Y9 a = Y a) ∧ (40000 - (2 * (q : Int) + 2)).toNat < (40000 - 2 * (q : Int)).toNat := fun g X9 Y9 t9 y9 => by
    refine ⟨wm.1, ⟨q + 1, wm.2.1, qM1, ?_, t9, y9⟩, wm.2.2⟩
    rw [st, if_neg g]
  have move : ((mOnes (2 * (q : Int)) < 4 ∧ (best = -1 ∨ mOnes (2 * (q : Int)) < mOnes best)) ∧ tpW X i (2 * (q : Int)) ≠ tpW X i 0) → ∀ X9 Y9 : Nat → Int → Int, tW X X9 i → (∀ a, a ≠ i + 18 → Y9 a = Y a) → (rI (2 * (q : Int) + 2)) ∧ (∃ q1 : Nat, 2 * (q : Int) + 2 = 2 * (q1 : Int) ∧ q1 ≤ M ∧ 2 * (q : Int) = whN (tpW X i) q1 ∧ tW X X9 i ∧ ∀ a, a ≠ i + 18 → Y9 a = Y a) ∧ (40000 - (2 * (q : Int) + 2)).toNat < (40000 - 2 * (q : Int)).toNat := fun g X9 Y9 t9 y9 => by
    refine ⟨wm.1, ⟨q + 1, wm.2.1, qM1, ?_, t9, y9⟩, wm.2.2⟩
    rw [st, if_pos g]
  have nx : ∀ {X9 Y9 : Nat → Int → Int} {r : Int}, (r = ((rTip X6 i (mWo X6 i (2 * (q : Int))) : Nat) : Int) ∧ tW X6 X9 i ∧ wK X9 i (mWo X6 i (2 * (q : Int))) (X i 27).toNat ∧ ∀ a, a ≠ i + 18 → Y9 a = Y7 a) → r = ((tpW X i (2 * (q : Int)) : Nat) : Int) ∧ tW X X9 i ∧ ∀ a, a ≠ i + 18 → Y9 a = Y a := fun {X9 Y9 r} g => by
    obtain ⟨g1, g2, -, g4⟩ := g
    rw [rTip_t (tW_t t6) s28] at g1
    exact ⟨g1, ⟨fun a h1 h2 => (g2.1 a h1 h2).trans (t6.1 a h1 h2), fun s h1 h2 => (g2.2 s h1 h2).trans (t6.2 s h1 h2)⟩, fun a h1 => (g4 a h1).trans (y6 a h1)⟩
  refine ⟨fun c1 => stay (fun g => by omega) _ _ t6 y6, fun c1 => ⟨fun c2 => ⟨h6, fun r18 _ X16 _ Y17 _ hq => ?_⟩, fun c2 _ => ⟨fun c3 => stay (fun g => by omega) _ _ t6 y6, fun c3 => ⟨h6, fun r30 _ X28 _ Y29 _ hq => ?_⟩⟩⟩⟩
  · obtain ⟨g1, g2, g3⟩ := nx hq
    exact ⟨fun e => stay (fun g => g.2 (by omega)) _ _ g2 g3, fun e => move ⟨⟨by omega, Or.inl c2⟩, fun g => e (by omega)⟩ _ _ g2 g3⟩
  · obtain ⟨g1, g2, g3⟩ := nx hq
    exact ⟨fun e => stay (fun g => g.2 (by omega)) _ _ g2 g3, fun e => move ⟨⟨by omega, Or.inr (by omega)⟩, fun g => e (by omega)⟩ _ _ g2 g3⟩
theorem c_X11_withheld {l : Launch} {D : va_G} {cy : Nat → ClassId} {bs N : Nat} {sa : Nat → Nat} {kd len : Nat → Nat} {X Y : Nat → Int → Int} {R : Nat → Int → Option Nat} {i : Nat} (hM : zM N kd len R i)  (hp : oH X Y i) : Met l yX11_withheld (.code yX11_withheld cX11_withheld 6 (some .int) :: zTB) (zRm 5 111) (zPc D cy bs sa N kd len X Y R [.ref (bs + (i))]) (zQi D cy bs N kd len (fun r st => st.2.2 = R ∧ (r = whN (tpW X i) (2 ^ ((X i 27).toNat - 1)) ∧ tW X (st.1) i ∧ ∀ a, a ≠ i + 18 → (st.2.1) a = Y a))) 0 0 (zA bs) := w_X11_withheld hM  (v_X11_withheld  hp)
