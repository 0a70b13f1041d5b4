/-! MORE OF TREES -/
def grN (w : Nat → Bool) (v : Nat → Int) : Nat → Nat
  | 0 => 0
  | q + 1 => if w q && decide (v (grN w v q) < v q) then q else grN w v q
theorem grN_b (w : Nat → Bool) (v : Nat → Int) : ∀ q, grN w v q ≤ q - 1
  | 0 => Nat.le_refl _
  | q + 1 => by
    have := grN_b w v q
    unfold grN
    split <;> omega
def grV (X : Nat → Int → Int) (i : Nat) (b : Bool) (k : Nat) : Int := if b then rW X i k else sHg (rP X i) k
/-- the first -/
def fsN (f : Nat → Bool) : Nat → Nat → Int
  | 0, _ => -1
  | m + 1, e => if f e then e else fsN f m (e + 1)
theorem fsN_b (f : Nat → Bool) : ∀ m e, -1 ≤ fsN f m e ∧ fsN f m e < e + m
  | 0, e => ⟨by unfold fsN; omega, by unfold fsN; omega⟩
  | m + 1, e => by
    have := fsN_b f m (e + 1)
    unfold fsN
    split
    · exact ⟨by omega, by omega⟩
    · exact ⟨by omega, by omega⟩
def unA (P : Nat → Nat) (k : Nat) : Int := zAnd (zAnd (wyP P k) (zXor (zShl 1 k) (-1))) (if k = 0 then 0 else zXor (zShl 1 (P k)) (-1))
def fUn (P : Nat → Nat) (w : Nat → Bool) (k e : Nat) : Bool := decide (1 ≤ e) && (w e && (!mHas (wyP P k) e && mHas (unA P k) (P e)))
def riN (L : Int → Int) : Nat → Int
  | 0 => -1
  | q + 1 => if riN L q = -1 ∨ L (riN L q) < L q then q else riN L q
theorem riN_b (L : Int → Int) : ∀ q, -1 ≤ riN L q ∧ riN L q < q
  | 0 => ⟨by unfold riN; omega, by unfold riN; omega⟩
  | q + 1 => by
    have := riN_b L q
    unfold riN
    split
    · exact ⟨by omega, by omega⟩
    · exact ⟨by omega, by omega⟩
def evN (f : Nat → Nat → Bool) : Nat → Int
  | 0 => 0
  | q + 1 => evN f q + cN (f q) q
theorem evN_b (f : Nat → Nat → Bool) : ∀ q, q ≤ 15 → 0 ≤ evN f q ∧ evN f q ≤ 15 * q
  | 0, _ => ⟨Int.le_refl _, Int.le_refl _⟩
  | q + 1, h => by
    have := evN_b f q (by omega)
    have := cN_b (f q) q
    unfold evN
    exact ⟨by omega, by omega⟩
def fEv (lv : Nat → Bool) (G : Nat → Int) (a b : Nat) : Bool := lv a && (lv b && decide (G a = G b))
abbrev cX11_greatest : ByteArray := prog_13_method_121_code
def yX11_greatest : MethodName := ⟨RX11, "greatest", "(Z)I"⟩
theorem dX11_greatest_0 : decode cX11_greatest 0 = .ok (.iconst 0, 1) := by decide +kernel
theorem dX11_greatest_1 : decode cX11_greatest 1 = .ok (.istore_n 2, 1) := by decide +kernel
theorem dX11_greatest_2 : decode cX11_greatest 2 = .ok (.iconst 1, 1) := by decide +kernel
theorem dX11_greatest_3 : decode cX11_greatest 3 = .ok (.istore_n 3, 1) := by decide +kernel
theorem dX11_greatest_4 : decode cX11_greatest 4 = .ok (.iload_n 3, 1) := by decide +kernel
theorem dX11_greatest_5 : decode cX11_greatest 5 = .ok (.aload_n 0, 1) := by decide +kernel
theorem dX11_greatest_6 : decode cX11_greatest 6 = .ok (.getfield 255, 3) := by decide +kernel
theorem dX11_greatest_9 : decode cX11_greatest 9 = .ok (.if_icmp .ge 81, 3) := by decide +kernel
theorem dX11_greatest_12 : decode cX11_greatest 12 = .ok (.iload_n 1, 1) := by decide +kernel
theorem dX11_greatest_13 : decode cX11_greatest 13 = .ok (.ifCond .eq 27, 3) := by decide +kernel
theorem dX11_greatest_16 : decode cX11_greatest 16 = .ok (.aload_n 0, 1) := by decide +kernel
theorem dX11_greatest_17 : decode cX11_greatest 17 = .ok (.getfield 50, 3) := by decide +kernel
theorem dX11_greatest_20 : decode cX11_greatest 20 = .ok (.iload_n 3, 1) := by decide +kernel
theorem dX11_greatest_21 : decode cX11_greatest 21 = .ok (.laload, 1) := by decide +kernel
theorem dX11_greatest_22 : decode cX11_greatest 22 = .ok (.aload_n 0, 1) := by decide +kernel
theorem dX11_greatest_23 : decode cX11_greatest 23 = .ok (.getfield 50, 3) := by decide +kernel
theorem dX11_greatest_26 : decode cX11_greatest 26 = .ok (.iload_n 2, 1) := by decide +kernel
theorem dX11_greatest_27 : decode cX11_greatest 27 = .ok (.laload, 1) := by decide +kernel
theorem dX11_greatest_28 : decode cX11_greatest 28 = .ok (.lcmp, 1) := by decide +kernel
theorem dX11_greatest_29 : decode cX11_greatest 29 = .ok (.ifCond .le 7, 3) := by decide +kernel
theorem dX11_greatest_32 : decode cX11_greatest 32 = .ok (.iconst 1, 1) := by decide +kernel
theorem dX11_greatest_33 : decode cX11_greatest 33 = .ok (.goto 27, 3) := by decide +kernel
theorem dX11_greatest_36 : decode cX11_greatest 36 = .ok (.iconst 0, 1) := by decide +kernel
theorem dX11_greatest_37 : decode cX11_greatest 37 = .ok (.goto 23, 3) := by decide +kernel
theorem dX11_greatest_40 : decode cX11_greatest 40 = .ok (.aload_n 0, 1) := by decide +kernel
theorem dX11_greatest_41 : decode cX11_greatest 41 = .ok (.getfield 47, 3) := by decide +kernel
theorem dX11_greatest_44 : decode cX11_greatest 44 = .ok (.iload_n 3, 1) := by decide +kernel
theorem dX11_greatest_45 : decode cX11_greatest 45 = .ok (.iaload, 1) := by decide +kernel
theorem dX11_greatest_46 : decode cX11_greatest 46 = .ok (.aload_n 0, 1) := by decide +kernel
theorem dX11_greatest_47 : decode cX11_greatest 47 = .ok (.getfield 47, 3) := by decide +kernel
theorem dX11_greatest_50 : decode cX11_greatest 50 = .ok (.iload_n 2, 1) := by decide +kernel
theorem dX11_greatest_51 : decode cX11_greatest 51 = .ok (.iaload, 1) := by decide +kernel
theorem dX11_greatest_52 : decode cX11_greatest 52 = .ok (.if_icmp .le 7, 3) := by decide +kernel
theorem dX11_greatest_55 : decode cX11_greatest 55 = .ok (.iconst 1, 1) := by decide +kernel
theorem dX11_greatest_56 : decode cX11_greatest 56 = .ok (.goto 4, 3) := by decide +kernel
theorem dX11_greatest_59 : decode cX11_greatest 59 = .ok (.iconst 0, 1) := by decide +kernel
theorem dX11_greatest_60 : decode cX11_greatest 60 = .ok (.istore 4, 2) := by decide +kernel
theorem dX11_greatest_62 : decode cX11_greatest 62 = .ok (.aload_n 0, 1) := by decide +kernel
theorem dX11_greatest_63 : decode cX11_greatest 63 = .ok (.getfield 292, 3) := by decide +kernel
theorem dX11_greatest_66 : decode cX11_greatest 66 = .ok (.iload_n 3, 1) := by decide +kernel
theorem dX11_greatest_67 : decode cX11_greatest 67 = .ok (.invokestatic 92, 3) := by decide +kernel
theorem dX11_greatest_70 : decode cX11_greatest 70 = .ok (.ifCond .eq 12, 3) := by decide +kernel
theorem dX11_greatest_73 : decode cX11_greatest 73 = .ok (.iload 4, 2) := by decide +kernel
theorem dX11_greatest_75 : decode cX11_greatest 75 = .ok (.ifCond .eq 7, 3) := by decide +kernel
theorem dX11_greatest_78 : decode cX11_greatest 78 = .ok (.iload_n 3, 1) := by decide +kernel
theorem dX11_greatest_79 : decode cX11_greatest 79 = .ok (.goto 4, 3) := by decide +kernel
theorem dX11_greatest_82 : decode cX11_greatest 82 = .ok (.iload_n 2, 1) := by decide +kernel
theorem dX11_greatest_83 : decode cX11_greatest 83 = .ok (.istore_n 2, 1) := by decide +kernel
theorem dX11_greatest_84 : decode cX11_greatest 84 = .ok (.iinc 3 1, 3) := by decide +kernel
theorem dX11_greatest_87 : decode cX11_greatest 87 = .ok (.goto (-83), 3) := by decide +kernel
theorem dX11_greatest_90 : decode cX11_greatest 90 = .ok (.iload_n 2, 1) := by decide +kernel
theorem dX11_greatest_91 : decode cX11_greatest 91 = .ok (.ireturn, 1) := by decide +kernel
def F_X11_greatest (i : Nat) (X Y : Nat → Int → Int) (R : Nat → Int → Option Nat) (a : Bool) : Prop := (∀ i j, rI (X i j)) → (∀ i j, rL (Y i j)) → (∃ q : Nat, (1 : Int) = q ∧ 1 ≤ q ∧ (1 : Int) ≤ X i 27 ∧ (0 : Int) = ((grN (sdf X i) (grV X i a) q : Nat) : Int)) ∧ (∀ (best : Int) (k : Int), rI best → rI k → (∃ q : Nat, k = q ∧ 1 ≤ q ∧ k ≤ X i 27 ∧ best = ((grN (sdf X i) (grV X i a) q : Nat) : Int)) → ((((X (i) 27) ≤ k) → (best = ((grN (sdf X i) (grV X i (a)) (X i 27).toNat : Nat) : Int))) ∧ ((¬ ((X (i) 27) ≤ k)) → (((a = false) → ((0 ≤ k ∧ k < 15) ∧ ((0 ≤ best ∧ best < 15) ∧ ((((X (i + 13) (k)) ≤ (X (i + 13) (best))) → ((((mHas (X (i) 35) (k)) = false) → ((rI (k + 1)) ∧ (∃ q : Nat, k + 1 = q ∧ 1 ≤ q ∧ k + 1 ≤ X i 27 ∧ best = ((grN (sdf X i) (grV X i a) q : Nat) : Int)) ∧ (((X i 27 - (k + 1)).toNat) < ((X i 27 - (k)).toNat)))) ∧ (((mHas (X (i) 35) (k)) = true) → ((rI (k + 1)) ∧ (∃ q : Nat, k + 1 = q ∧ 1 ≤ q ∧ k + 1 ≤ X i 27 ∧ best = ((grN (sdf X i) (grV X i a) q : Nat) : Int)) ∧ (((X i 27 - (k + 1)).toNat) < ((X i 27 - (k)).toNat)))))) ∧ ((¬ ((X (i + 13) (k)) ≤ (X (i + 13) (best)))) → ((((mHas (X (i) 35) (k)) = false) → ((rI (k + 1)) ∧ (∃ q : Nat, k + 1 = q ∧ 1 ≤ q ∧ k + 1 ≤ X i 27 ∧ best = ((grN (sdf X i) (grV X i a) q : Nat) : Int)) ∧ (((X i 27 - (k + 1)).toNat) < ((X i 27 - (k)).toNat)))) ∧ (((mHas (X (i) 35) (k)) = true) → ((rI (k + 1)) ∧ (∃ q : Nat, k + 1 = q ∧ 1 ≤ q ∧ k + 1 ≤ X i 27 ∧ k = ((grN (sdf X i) (grV X i a) q : Nat) : Int)) ∧ (((X i 27 - (k + 1)).toNat) < ((X i 27 - (k)).toNat)))))))))) ∧ ((a = true) → ((0 ≤ k ∧ k < 15) ∧ ((0 ≤ best ∧ best < 15) ∧ ((((Y (i + 14) (k)) ≤ (Y (i + 14) (best))) → ((((mHas (X (i) 35) (k)) = false) → ((rI (k + 1)) ∧ (∃ q : Nat, k + 1 = q ∧ 1 ≤ q ∧ k + 1 ≤ X i 27 ∧ best = ((grN (sdf X i) (grV X i a) q : Nat) : Int)) ∧ (((X i 27 - (k + 1)).toNat) < ((X i 27 - (k)).toNat)))) ∧ (((mHas (X (i) 35) (k)) = true) → ((rI (k + 1)) ∧ (∃ q : Nat, k + 1 = q ∧ 1 ≤ q ∧ k + 1 ≤ X i 27 ∧ best = ((grN (sdf X i) (grV X i a) q : Nat) : Int)) ∧ (((X i 27 - (k + 1)).toNat) < ((X i 27 - (k)).toNat)))))) ∧ ((¬ ((Y (i + 14) (k)) ≤ (Y (i + 14) (best)))) → ((((mHas (X (i) 35) (k)) = false) → ((rI (k + 1)) ∧ (∃ q : Nat, k + 1 = q ∧ 1 ≤ q ∧ k + 1 ≤ X i 27 ∧ best = ((grN (sdf X i) (grV X i a) q : Nat) : Int)) ∧ (((X i 27 - (k + 1)).toNat) < ((X i 27 - (k)).toNat)))) ∧ (((mHas (X (i) 35) (k)) = true) → ((rI (k + 1)) ∧ (∃ q : Nat, k + 1 = q ∧ 1 ≤ q ∧ k + 1 ≤ X i 27 ∧ k = ((grN (sdf X i) (grV X i a) q : Nat) : Int)) ∧ (((X i 27 - (k + 1)).toNat) < ((X i 27 - (k)).toNat))))))))))))))
set_option maxHeartbeats 4000000 in
set_option maxRecDepth 100000 in
theorem w_X11_greatest {l : Launch} {D : va_G} {cy : Nat → ClassId} {bs N : Nat} {sa : Nat → Nat} {kd len : Nat → Nat} {X Y : Nat → Int → Int} {R : Nat → Int → Option Nat} {i : Nat} (hM : zM N kd len R i) (a : Bool) (hF : F_X11_greatest i X Y R a) : Met l yX11_greatest (.code yX11_greatest cX11_greatest 5 (some .int) :: zTB) (zRm 1 21) (zPc D cy bs sa N kd len X Y R [.ref (bs + (i)), .int (zI (bz (a)))]) (zQi D cy bs N kd len (fun r st => r = ((grN (sdf X i) (grV X i (a)) (X i 27).toNat : Nat) : Int) ∧ st = (X, Y, R))) 0 0 (zA bs) := by
  refine zstart (by decide) (Nat.le_of_ble_eq_true rfl) ?_
  intro p e s m args below meth c ls C hE hH hr hlk hnm hl hargs
  have hF := hF hH.2.2.1 hH.2.2.2
  have hS : va_S (zA bs) s.heap s.heap [] := va_S.rf
  have hl : lv_has ls 5 [(0, .ref (bs + (i))), (1, .int (zI (bz (a))))] := hl
  refine zd_iconst C dX11_greatest_0 ?_
  refine lv_istore_n (lv' := [(2, .int (zI (0))), (0, .ref (bs + (i))), (1, .int (zI (bz (a))))]) C.1 C.2.1 dX11_greatest_1 rfl hl (by decide) rfl (fun ls hl => ?_)
  refine zd_iconst C dX11_greatest_2 ?_
  refine lv_istore_n (lv' := [(3, .int (zI (1))), (2, .int (zI (0))), (0, .ref (bs + (i))), (1, .int (zI (bz (a))))]) C.1 C.2.1 dX11_greatest_3 rfl hl (by decide) rfl (fun ls hl => ?_)
  obtain ⟨hI1, hF⟩ := hF
  have L1 : ∀ (fu : Nat) (best : Int) (k : Int), rI best → rI k → (∃ q : Nat, k = q ∧ 1 ≤ q ∧ k ≤ X i 27 ∧ best = ((grN (sdf X i) (grV X i a) q : Nat) : Int)) → ((X i 27 - (k)).toNat) < fu → ∀ (H : Heap) (locs : List Loc) (ls : Array Slot), zH D cy bs N kd len X Y R H → va_S (zA bs) s.heap H locs → lv_has ls 5 [(2, .int (zI (best))), (3, .int (zI (k))), (0, .ref (bs + (i))), (1, .int (zI (bz (a))))] → W p l e (zRm 1 21) s m args below meth c H locs 0 0 (MQ below (zQi D cy bs N kd len (fun r st => r = ((grN (sdf X i) (grV X i (a)) (X i 27).toNat : Nat) : Int) ∧ st = (X, Y, R))) args s 0 0 (zA bs)) (F0 m 4 ls []) := by
    intro fu
    induction fu with
    | zero => intro best k _ _ _ hmu; exact absurd hmu (Nat.not_lt_zero _)
    | succ fu ih1 =>
      intro best k hbest hk hI hmu1 H locs ls hH hS hl
      have hF := hF best k hbest hk  hI
      refine lv_iload_n C.1 C.2.1 dX11_greatest_4 rfl (lv_at hl 1 rfl) ?_
      refine lv_aload_n C.1 C.2.1 dX11_greatest_5 rfl (lv_at hl 2 rfl) ?_
      refine zg11_27 C hH (zM_n0 hM) (zM_k0 hM) q_1314 dX11_greatest_6 ?_
      refine zd_icmp_ge C hk (hH.2.2.1 _ _) 90 dX11_greatest_9 (by decide) (fun c2 => ?_) (fun c2 => ?_)
      · have hF := hF.1 c2
        refine lv_iload_n C.1 C.2.1 dX11_greatest_90 rfl (lv_at hl 0 rfl) ?_
        exact zd_iret C hr hlk hH hS hbest (⟨hF, rfl⟩) dX11_greatest_91
      · have hF := hF.2 c2
        refine lv_iload_n C.1 C.2.1 dX11_greatest_12 rfl (lv_at hl 3 rfl) ?_
        refine zd_ifB_eq C 40 dX11_greatest_13 (by decide) (fun c3 => ?_) (fun c3 => ?_)
        · have hF := hF.1 c3
          refine lv_aload_n C.1 C.2.1 dX11_greatest_40 rfl (lv_at hl 2 rfl) ?_
          refine zg11_31 C hH (zM_n0 hM) (zM_k0 hM) q_1318 (zM_r13 hM) dX11_greatest_41 ?_
          refine lv_iload_n C.1 C.2.1 dX11_greatest_44 rfl (lv_at hl 1 rfl) ?_
          obtain ⟨o4, hF⟩ := hF
          refine zd_iald C hH (zM_n13 hM) (zM_k13 hM) o4.1 (by rw [zM_l13 hM]; exact o4.2) (by rw [zM_l13 hM]; decide) dX11_greatest_45 ?_
          refine lv_aload_n C.1 C.2.1 dX11_greatest_46 rfl (lv_at hl 2 rfl) ?_
          refine zg11_31 C hH (zM_n0 hM) (zM_k0 hM) q_1318 (zM_r13 hM) dX11_greatest_47 ?_
          refine lv_iload_n C.1 C.2.1 dX11_greatest_50 rfl (lv_at hl 0 rfl) ?_
          obtain ⟨o5, hF⟩ := hF
          refine zd_iald C hH (zM_n13 hM) (zM_k13 hM) o5.1 (by rw [zM_l13 hM]; exact o5.2) (by rw [zM_l13 hM]; decide) dX11_greatest_51 ?_
          refine zd_icmp_le C (hH.2.2.1 _ _) (hH.2.2.1 _ _) 59 dX11_greatest_52 (by decide) (fun c6 => ?_) (fun c6 => ?_)
          · have hF := hF.1 c6
            refine zd_iconst C dX11_greatest_59 ?_
            refine lv_istore (lv' := [(4, .int (zI (0))), (2, .int (zI (best))), (3, .int (zI (k))), (0, .ref (bs + (i))), (1, .int (zI (bz (a))))]) C.1 C.2.1 dX11_greatest_60 hl (by decide) rfl (fun ls hl => ?_)
            refine lv_aload_n C.1 C.2.1 dX11_greatest_62 rfl (lv_at hl 3 rfl) ?_
            refine zg11_35 C hH (zM_n0 hM) (zM_k0 hM) q_1322 dX11_greatest_63 ?_
            refine lv_iload_n C.1 C.2.1 dX11_greatest_66 rfl (lv_at hl 2 rfl) ?_
            refine zgoi (zrunS (As := [.int (zI (X (i) 35)), .int (zI (k))]) (rest := []) C hE hH hS hl.1 (c_X11_has (l := l)  (X (i) 35) (hH.2.2.1 _ _) (k) hk) k_RX11_92 ⟨Nat.le_of_ble_eq_true rfl, Nat.le_of_ble_eq_true rfl⟩ rfl (Nat.le_of_ble_eq_true rfl) dX11_greatest_67 ⟨Nat.zero_le _, Nat.zero_le _⟩) hS (fun rq Xq Yq Rq H locs hrq hq hH hS => ?_)
            obtain ⟨h91, h92⟩ := hq
            have h93 : Xq = X := congrArg (fun z => z.1) h92
            have h94 : Yq = Y := congrArg (fun z => z.2.1) h92
            have h95 : Rq = R := congrArg (fun z => z.2.2) h92
            rw [h93, h94, h95] at hH
            subst h91
            refine zd_ifB_eq C 82 dX11_greatest_70 (by decide) (fun c7 => ?_) (fun c7 => ?_)
            · have hF := hF.1 c7
              refine lv_iload_n C.1 C.2.1 dX11_greatest_82 rfl (lv_at hl 1 rfl) ?_
              refine lv_istore_n (lv' := [(2, .int (zI (best))), (4, .int (zI (0))), (3, .int (zI (k))), (0, .ref (bs + (i))), (1, .int (zI (bz (a))))]) C.1 C.2.1 dX11_greatest_83 rfl hl (by decide) rfl (fun ls hl => ?_)
              refine zd_iinc (k := 2) (lv' := [(3, .int (zI (k + 1))), (2, .int (zI (best))), (4, .int (zI (0))), (0, .ref (bs + (i))), (1, .int (zI (bz (a))))]) C hl rfl dX11_greatest_84 (by decide) rfl (fun ls hl => ?_)
              refine lv_goto (tgt := 4) C.1 C.2.1 dX11_greatest_87 (by decide) ?_
              obtain ⟨o8, hF⟩ := hF
              exact ih1 (best) (k + 1) hbest o8 hF.1 (Nat.lt_of_lt_of_le hF.2 (Nat.le_of_lt_succ hmu1)) _ _ _ hH hS (lv_sub hl [1, 0, 3, 4] rfl)
            · have hF := hF.2 c7
              refine lv_iload C.1 C.2.1 dX11_greatest_73 (lv_at hl 0 rfl) ?_
              refine zd_if_eq C (by decide) 82 dX11_greatest_75 (by decide) (fun c9 => ?_) (fun c9 => ?_)
              · refine lv_iload_n C.1 C.2.1 dX11_greatest_82 rfl (lv_at hl 1 rfl) ?_
                refine lv_istore_n (lv' := [(2, .int (zI (best))), (4, .int (zI (0))), (3, .int (zI (k))), (0, .ref (bs + (i))), (1, .int (zI (bz (a))))]) C.1 C.2.1 dX11_greatest_83 rfl hl (by decide) rfl (fun ls hl => ?_)
                refine zd_iinc (k := 2) (lv' := [(3, .int (zI (k + 1))), (2, .int (zI (best))), (4, .int (zI (0))), (0, .ref (bs + (i))), (1, .int (zI (bz (a))))]) C hl rfl dX11_greatest_84 (by decide) rfl (fun ls hl => ?_)
                refine lv_goto (tgt := 4) C.1 C.2.1 dX11_greatest_87 (by decide) ?_
                obtain ⟨o10, hF⟩ := hF
                exact ih1 (best) (k + 1) hbest o10 hF.1 (Nat.lt_of_lt_of_le hF.2 (Nat.le_of_lt_succ hmu1)) _ _ _ hH hS (lv_sub hl [1, 0, 3, 4] rfl)
              · exact absurd (by decide) c9
          · have hF := hF.2 c6
            refine zd_iconst C dX11_greatest_55 ?_
            refine lv_goto (tgt := 60) C.1 C.2.1 dX11_greatest_56 (by decide) ?_
            refine lv_istore (lv' := [(4, .int (zI (1))), (2, .int (zI (best))), (3, .int (zI (k))), (0, .ref (bs + (i))), (1, .int (zI (bz (a))))]) C.1 C.2.1 dX11_greatest_60 hl (by decide) rfl (fun ls hl => ?_)
            refine lv_aload_n C.1 C.2.1 dX11_greatest_62 rfl (lv_at hl 3 rfl) ?_
            refine zg11_35 C hH (zM_n0 hM) (zM_k0 hM) q_1322 dX11_greatest_63 ?_
            refine lv_iload_n C.1 C.2.1 dX11_greatest_66 rfl (lv_at hl 2 rfl) ?_
            refine zgoi (zrunS (As := [.int (zI (X (i) 35)), .int (zI (k))]) (rest := []) C hE hH hS hl.1 (c_X11_has (l := l)  (X (i) 35) (hH.2.2.1 _ _) (k) hk) k_RX11_92 ⟨Nat.le_of_ble_eq_true rfl, Nat.le_of_ble_eq_true rfl⟩ rfl (Nat.le_of_ble_eq_true rfl) dX11_greatest_67 ⟨Nat.zero_le _, Nat.zero_le _⟩) hS (fun rq Xq Yq Rq H locs hrq hq hH hS => ?_)
            obtain ⟨h91, h92⟩ := hq
            have h93 : Xq = X := congrArg (fun z => z.1) h92
            have h94 : Yq = Y := congrArg (fun z => z.2.1) h92
            have h95 : Rq = R := congrArg (fun z => z.2.2) h92
            rw [h93, h94, h95] at hH
            subst h91
            refine zd_ifB_eq C 82 dX11_greatest_70 (by decide) (fun c11 => ?_) (fun c11 => ?_)
            · have hF := hF.1 c11
              refine lv_iload_n C.1 C.2.1 dX11_greatest_82 rfl (lv_at hl 1 rfl) ?_
              refine lv_istore_n (lv' := [(2, .int (zI (best))), (4, .int (zI (1))), (3, .int (zI (k))), (0, .ref (bs + (i))), (1, .int (zI (bz (a))))]) C.1 C.2.1 dX11_greatest_83 rfl hl (by decide) rfl (fun ls hl => ?_)
              refine zd_iinc (k := 2) (lv' := [(3, .int (zI (k + 1))), (2, .int (zI (best))), (4, .int (zI (1))), (0, .ref (bs + (i))), (1, .int (zI (bz (a))))]) C hl rfl dX11_greatest_84 (by decide) rfl (fun ls hl => ?_)
              refine lv_goto (tgt := 4) C.1 C.2.1 dX11_greatest_87 (by decide) ?_
              obtain ⟨o12, hF⟩ := hF
              exact ih1 (best) (k + 1) hbest o12 hF.1 (Nat.lt_of_lt_of_le hF.2 (Nat.le_of_lt_succ hmu1)) _ _ _ hH hS (lv_sub hl [1, 0, 3, 4] rfl)
            · have hF := hF.2 c11
              refine lv_iload C.1 C.2.1 dX11_greatest_73 (lv_at hl 0 rfl) ?_
              refine zd_if_eq C (by decide) 82 dX11_greatest_75 (by decide) (fun c13 => ?_) (fun c13 => ?_)
              · exact absurd c13 (by decide)
              · refine lv_iload_n C.1 C.2.1 dX11_greatest_78 rfl (lv_at hl 2 rfl) ?_
                refine lv_goto (tgt := 83) C.1 C.2.1 dX11_greatest_79 (by decide) ?_
                refine lv_istore_n (lv' := [(2, .int (zI (k))), (4, .int (zI (1))), (3, .int (zI (k))), (0, .ref (bs + (i))), (1, .int (zI (bz (a))))]) C.1 C.2.1 dX11_greatest_83 rfl hl (by decide) rfl (fun ls hl => ?_)
                refine zd_iinc (k := 2) (lv' := [(3, .int (zI (k + 1))), (2, .int (zI (k))), (4, .int (zI (1))), (0, .ref (bs + (i))), (1, .int (zI (bz (a))))]) C hl rfl dX11_greatest_84 (by decide) rfl (fun ls hl => ?_)
                refine lv_goto (tgt := 4) C.1 C.2.1 dX11_greatest_87 (by decide) ?_
                obtain ⟨o14, hF⟩ := hF
                exact ih1 (k) (k + 1) hk o14 hF.1 (Nat.lt_of_lt_of_le hF.2 (Nat.le_of_lt_succ hmu1)) _ _ _ hH hS (lv_sub hl [1, 0, 3, 4] rfl)
        · have hF := hF.2 c3
          refine lv_aload_n C.1 C.2.1 dX11_greatest_16 rfl (lv_at hl 2 rfl) ?_
          refine zg11_32 C hH (zM_n0 hM) (zM_k0 hM) q_1319 (zM_r14 hM) dX11_greatest_17 ?_
          refine lv_iload_n C.1 C.2.1 dX11_greatest_20 rfl (lv_at hl 1 rfl) ?_
          obtain ⟨o15, hF⟩ := hF
          refine zd_lald C hH (zM_n14 hM) (zM_k14 hM) o15.1 (by rw [zM_l14 hM]; exact o15.2) (by rw [zM_l14 hM]; decide) dX11_greatest_21 ?_
          refine lv_aload_n C.1 C.2.1 dX11_greatest_22 rfl (lv_at hl 2 rfl) ?_
          refine zg11_32 C hH (zM_n0 hM) (zM_k0 hM) q_1319 (zM_r14 hM) dX11_greatest_23 ?_
          refine lv_iload_n C.1 C.2.1 dX11_greatest_26 rfl (lv_at hl 0 rfl) ?_
          obtain ⟨o16, hF⟩ := hF
          refine zd_lald C hH (zM_n14 hM) (zM_k14 hM) o16.1 (by rw [zM_l14 hM]; exact o16.2) (by rw [zM_l14 hM]; decide) dX11_greatest_27 ?_
          refine zd_lcmp C (hH.2.2.2 _ _) (hH.2.2.2 _ _) dX11_greatest_28 ?_
          refine zd_ifL_le C 36 dX11_greatest_29 (by decide) (fun c17 => ?_) (fun c17 => ?_)
          · have hF := hF.1 c17
            refine zd_iconst C dX11_greatest_36 ?_
            refine lv_goto (tgt := 60) C.1 C.2.1 dX11_greatest_37 (by decide) ?_
            refine lv_istore (lv' := [(4, .int (zI (0))), (2, .int (zI (best))), (3, .int (zI (k))), (0, .ref (bs + (i))), (1, .int (zI (bz (a))))]) C.1 C.2.1 dX11_greatest_60 hl (by decide) rfl (fun ls hl => ?_)
            refine lv_aload_n C.1 C.2.1 dX11_greatest_62 rfl (lv_at hl 3 rfl) ?_
            refine zg11_35 C hH (zM_n0 hM) (zM_k0 hM) q_1322 dX11_greatest_63 ?_
            refine lv_iload_n C.1 C.2.1 dX11_greatest_66 rfl (lv_at hl 2 rfl) ?_
            refine zgoi (zrunS (As := [.int (zI (X (i) 35)), .int (zI (k))]) (rest := []) C hE hH hS hl.1 (c_X11_has (l := l)  (X (i) 35) (hH.2.2.1 _ _) (k) hk) k_RX11_92 ⟨Nat.le_of_ble_eq_true rfl, Nat.le_of_ble_eq_true rfl⟩ rfl (Nat.le_of_ble_eq_true rfl) dX11_greatest_67 ⟨Nat.zero_le _, Nat.zero_le _⟩) hS (fun rq Xq Yq Rq H locs hrq hq hH hS => ?_)
            obtain ⟨h91, h92⟩ := hq
            have h93 : Xq = X := congrArg (fun z => z.1) h92
            have h94 : Yq = Y := congrArg (fun z => z.2.1) h92
            have h95 : Rq = R := congrArg (fun z => z.2.2) h92
            rw [h93, h94, h95] at hH
            subst h91
            refine zd_ifB_eq C 82 dX11_greatest_70 (by decide) (fun c18 => ?_) (fun c18 => ?_)
            · have hF := hF.1 c18
              refine lv_iload_n C.1 C.2.1 dX11_greatest_82 rfl (lv_at hl 1 rfl) ?_
              refine lv_istore_n (lv' := [(2, .int (zI (best))), (4, .int (zI (0))), (3, .int (zI (k))), (0, .ref (bs + (i))), (1, .int (zI (bz (a))))]) C.1 C.2.1 dX11_greatest_83 rfl hl (by decide) rfl (fun ls hl => ?_)
              refine zd_iinc (k := 2) (lv' := [(3, .int (zI (k + 1))), (2, .int (zI (best))), (4, .int (zI (0))), (0, .ref (bs + (i))), (1, .int (zI (bz (a))))]) C hl rfl dX11_greatest_84 (by decide) rfl (fun ls hl => ?_)
              refine lv_goto (tgt := 4) C.1 C.2.1 dX11_greatest_87 (by decide) ?_
              obtain ⟨o19, hF⟩ := hF
              exact ih1 (best) (k + 1) hbest o19 hF.1 (Nat.lt_of_lt_of_le hF.2 (Nat.le_of_lt_succ hmu1)) _ _ _ hH hS (lv_sub hl [1, 0, 3, 4] rfl)
            · have hF := hF.2 c18
              refine lv_iload C.1 C.2.1 dX11_greatest_73 (lv_at hl 0 rfl) ?_
              refine zd_if_eq C (by decide) 82 dX11_greatest_75 (by decide) (fun c20 => ?_) (fun c20 => ?_)
              · refine lv_iload_n C.1 C.2.1 dX11_greatest_82 rfl (lv_at hl 1 rfl) ?_
                refine lv_istore_n (lv' := [(2, .int (zI (best))), (4, .int (zI (0))), (3, .int (zI (k))), (0, .ref (bs + (i))), (1, .int (zI (bz (a))))]) C.1 C.2.1 dX11_greatest_83 rfl hl (by decide) rfl (fun ls hl => ?_)
                refine zd_iinc (k := 2) (lv' := [(3, .int (zI (k + 1))), (2, .int (zI (best))), (4, .int (zI (0))), (0, .ref (bs + (i))), (1, .int (zI (bz (a))))]) C hl rfl dX11_greatest_84 (by decide) rfl (fun ls hl => ?_)
                refine lv_goto (tgt := 4) C.1 C.2.1 dX11_greatest_87 (by decide) ?_
                obtain ⟨o21, hF⟩ := hF
                exact ih1 (best) (k + 1) hbest o21 hF.1 (Nat.lt_of_lt_of_le hF.2 (Nat.le_of_lt_succ hmu1)) _ _ _ hH hS (lv_sub hl [1, 0, 3, 4] rfl)
              · exact absurd (by decide) c20
          · have hF := hF.2 c17
            refine zd_iconst C dX11_greatest_32 ?_
            refine lv_goto (tgt := 60) C.1 C.2.1 dX11_greatest_33 (by decide) ?_
            refine lv_istore (lv' := [(4, .int (zI (1))), (2, .int (zI (best))), (3, .int (zI (k))), (0, .ref (bs + (i))), (1, .int (zI (bz (a))))]) C.1 C.2.1 dX11_greatest_60 hl (by decide) rfl (fun ls hl => ?_)
            refine lv_aload_n C.1 C.2.1 dX11_greatest_62 rfl (lv_at hl 3 rfl) ?_
            refine zg11_35 C hH (zM_n0 hM) (zM_k0 hM) q_1322 dX11_greatest_63 ?_
            refine lv_iload_n C.1 C.2.1 dX11_greatest_66 rfl (lv_at hl 2 rfl) ?_
            refine zgoi (zrunS (As := [.int (zI (X (i) 35)), .int (zI (k))]) (rest := []) C hE hH hS hl.1 (c_X11_has (l := l)  (X (i) 35) (hH.2.2.1 _ _) (k) hk) k_RX11_92 ⟨Nat.le_of_ble_eq_true rfl, Nat.le_of_ble_eq_true rfl⟩ rfl (Nat.le_of_ble_eq_true rfl) dX11_greatest_67 ⟨Nat.zero_le _, Nat.zero_le _⟩) hS (fun rq Xq Yq Rq H locs hrq hq hH hS => ?_)
            obtain ⟨h91, h92⟩ := hq
            have h93 : Xq = X := congrArg (fun z => z.1) h92
            have h94 : Yq = Y := congrArg (fun z => z.2.1) h92
            have h95 : Rq = R := congrArg (fun z => z.2.2) h92
            rw [h93, h94, h95] at hH
            subst h91
            refine zd_ifB_eq C 82 dX11_greatest_70 (by decide) (fun c22 => ?_) (fun c22 => ?_)
            · have hF := hF.1 c22
              refine lv_iload_n C.1 C.2.1 dX11_greatest_82 rfl (lv_at hl 1 rfl) ?_
              refine lv_istore_n (lv' := [(2, .int (zI (best))), (4, .int (zI (1))), (3, .int (zI (k))), (0, .ref (bs + (i))), (1, .int (zI (bz (a))))]) C.1 C.2.1 dX11_greatest_83 rfl hl (by decide) rfl (fun ls hl => ?_)
              refine zd_iinc (k := 2) (lv' := [(3, .int (zI (k + 1))), (2, .int (zI (best))), (4, .int (zI (1))), (0, .ref (bs + (i))), (1, .int (zI (bz (a))))]) C hl rfl dX11_greatest_84 (by decide) rfl (fun ls hl => ?_)
              refine lv_goto (tgt := 4) C.1 C.2.1 dX11_greatest_87 (by decide) ?_
              obtain ⟨o23, hF⟩ := hF
              exact ih1 (best) (k + 1) hbest o23 hF.1 (Nat.lt_of_lt_of_le hF.2 (Nat.le_of_lt_succ hmu1)) _ _ _ hH hS (lv_sub hl [1, 0, 3, 4] rfl)
            · have hF := hF.2 c22
              refine lv_iload C.1 C.2.1 dX11_greatest_73 (lv_at hl 0 rfl) ?_
              refine zd_if_eq C (by decide) 82 dX11_greatest_75 (by decide) (fun c24 => ?_) (fun c24 => ?_)
              · exact absurd c24 (by decide)
              · refine lv_iload_n C.1 C.2.1 dX11_greatest_78 rfl (lv_at hl 2 rfl) ?_
                refine lv_goto (tgt := 83) C.1 C.2.1 dX11_greatest_79 (by decide) ?_
                refine lv_istore_n (lv' := [(2, .int (zI (k))), (4, .int (zI (1))), (3, .int (zI (k))), (0, .ref (bs + (i))), (1, .int (zI (bz (a))))]) C.1 C.2.1 dX11_greatest_83 rfl hl (by decide) rfl (fun ls hl => ?_)
                refine zd_iinc (k := 2) (lv' := [(3, .int (zI (k + 1))), (2, .int (zI (k))), (4, .int (zI (1))), (0, .ref (bs + (i))), (1, .int (zI (bz (a))))]) C hl rfl dX11_greatest_84 (by decide) rfl (fun ls hl => ?_)
                refine lv_goto (tgt := 4) C.1 C.2.1 dX11_greatest_87 (by decide) ?_
                obtain ⟨o25, hF⟩ := hF
                exact ih1 (k) (k + 1) hk o25 hF.1 (Nat.lt_of_lt_of_le hF.2 (Nat.le_of_lt_succ hmu1)) _ _ _ hH hS (lv_sub hl [1, 0, 3, 4] rfl)
  exact L1 (((X i 27 - ((1 : Int))).toNat) + 1) ((0 : Int)) ((1 : Int)) (by decide) (by decide) hI1 (Nat.lt_succ_self _) _ _ _ hH hS (lv_sub hl [1, 0, 2, 3] rfl)
theorem v_X11_greatest {X Y : Nat → Int → Int} {R : Nat → Int → Option Nat} {i : Nat} (a : Bool) (hp : oH X Y i) : F_X11_greatest i X Y R a := by
  unfold F_X11_greatest
  intro hX hY
  have h := hp
  have h27 := h.1.2.2.1
  have hbs := h.1.2.2.2
  have h35 := h.2.2.2.1
  have hl := h.2.2.1
  have sd : ∀ q : Nat, (q : Int) < X i 27 → mHas (X i 35) q = sdf X i q := fun q hq => by
    rw [h35]
    exact bS_has _ (by omega) (by omega)
  have ep : ∀ q : Nat, 1 ≤ q → (q : Int) < X i 27 → mPar X i q = rP X i q := fun q h1 h2 => rP_c hbs.1 h1 (by omega)
  have pb : ∀ q : Nat, 1 ≤ q → (q : Int) < X i 27 → rP X i q < q := fun q h1 h2 => rP_par hbs.1 q h1 (by omega)
  have hW := (oH_W h).2.2
  have g1 : grN (sdf X i) (grV X i a) 1 = 0 := by
    have := grN_b (sdf X i) (grV X i a) 1
    omega
  refine ⟨⟨1, rfl, by decide, by omega, by rw [g1]; rfl⟩, fun best k br kr hI => ?_⟩
  obtain ⟨q, hq, q1, q2, hz⟩ := hI
  subst hq
  refine ⟨fun c => by rw [hz, show (X i 27).toNat = q by omega], fun c => ?_⟩
  have hb := grN_b (sdf X i) (grV X i a) q
  have st : grN (sdf X i) (grV X i a) (q + 1) = if sdf X i q && decide (grV X i a (grN (sdf X i) (grV X i a) q) < grV X i a q) then q else grN (sdf X i) (grV X i a) q := rfl
  generalize grN (sdf X i) (grV X i a) q = m at hz hb st
  subst hz
  rw [sd q (by omega), (hl q (by omega)).1, (hl m (by omega)).1, (hl q (by omega)).2.1, (hl m (by omega)).2.1]
  have no : (sdf X i q && decide (grV X i a m < grV X i a q)) = false → (rI ((q : Int) + 1)) ∧ (∃ y : Nat, (q : Int) + 1 = y ∧ 1 ≤ y ∧ (q : Int) + 1 ≤ X i 27 ∧ (m : Int) = ((grN (sdf X i) (grV X i a) y : Nat) : Int)) ∧ ((X i 27 - ((q : Int) + 1)).toNat < (X i 27 - q).toNat) := fun g => by
    refine ⟨⟨by omega, by omega⟩, ⟨q + 1, by omega, by omega, by omega, ?_⟩, by omega⟩
    rw [st, g]
    rfl
  have yes : (sdf X i q && decide (grV X i a m < grV X i a q)) = true → (rI ((q : Int) + 1)) ∧ (∃ y : Nat, (q : Int) + 1 = y ∧ 1 ≤ y ∧ (q : Int) + 1 ≤ X i 27 ∧ (q : Int) = ((grN (sdf X i) (grV X i a) y : Nat) : Int)) ∧ ((X i 27 - ((q : Int) + 1)).toNat < (X i 27 - q).toNat) := fun g => by
    refine ⟨⟨by omega, by omega⟩, ⟨q + 1, by omega, by omega, by omega, ?_⟩, by omega⟩
    rw [st, g]
    rfl
  refine ⟨fun ca => ⟨⟨by omega, by omega⟩, ⟨by omega, by omega⟩, fun cv => ?_, fun cv => ?_⟩, fun ca => ⟨⟨by omega, by omega⟩, ⟨by omega, by omega⟩, fun cv => ?_, fun cv => ?_⟩⟩
  · have d : decide (grV X i a m < grV X i a q) = false := decide_eq_false (by rw [ca]; show ¬ ((sHg (rP X i) m : Nat) : Int) < ((sHg (rP X i) q : Nat) : Int); omega)
    exact ⟨fun cs => no (by rw [cs, Bool.false_and]), fun cs => no (by rw [d, Bool.and_false])⟩
  · have d : decide (grV X i a m < grV X i a q) = true := decide_eq_true (by rw [ca]; show ((sHg (rP X i) m : Nat) : Int) < ((sHg (rP X i) q : Nat) : Int); omega)
    exact ⟨fun cs => no (by rw [cs, Bool.false_and]), fun cs => yes (by rw [d, cs]; rfl)⟩
  · have d : decide (grV X i a m < grV X i a q) = false := decide_eq_false (by rw [ca]; show ¬ rW X i m < rW X i q; omega)
    exact ⟨fun cs => no (by rw [cs, Bool.false_and]), fun cs => no (by rw [d, Bool.and_false])⟩
  · have d : decide (grV X i a m < grV X i a q) = true := decide_eq_true (by rw [ca]; show rW X i m < rW X i q; omega)
    exact ⟨fun cs => no (by rw [cs, Bool.false_and]), fun cs => yes (by rw [d, cs]; rfl)⟩
theorem c_X11_greatest {l : Launch} {D : va_G} {cy : Nat → ClassId} {bs N : Nat} {sa : Nat → Nat} {kd len : Nat → Nat} {X Y : Nat → Int → Int} {R : Nat → Int → Option Nat} {i : Nat} (hM : zM N kd len R i) (a : Bool) (hp : oH X Y i) : Met l yX11_greatest (.code yX11_greatest cX11_greatest 5 (some .int) :: zTB) (zRm 1 21) (zPc D cy bs sa N kd len X Y R [.ref (bs + (i)), .int (zI (bz (a)))]) (zQi D cy bs N kd len (fun r st => r = ((grN (sdf X i) (grV X i (a)) (X i 27).toNat : Nat) : Int) ∧ st = (X, Y, R))) 0 0 (zA bs) := w_X11_greatest hM a (v_X11_greatest a hp)
abbrev cX11_rootOf : ByteArray := prog_13_method_128_code
def yX11_rootOf : MethodName := ⟨RX11, "rootOf", "(I)I"⟩
theorem dX11_rootOf_0 : decode cX11_rootOf 0 = .ok (.iconst 0, 1) := by decide +kernel
theorem dX11_rootOf_1 : decode cX11_rootOf 1 = .ok (.istore_n 2, 1) := by decide +kernel
theorem dX11_rootOf_2 : decode cX11_rootOf 2 = .ok (.iload_n 2, 1) := by decide +kernel
theorem dX11_rootOf_3 : decode cX11_rootOf 3 = .ok (.iload_n 1, 1) := by decide +kernel
theorem dX11_rootOf_4 : decode cX11_rootOf 4 = .ok (.if_icmp .gt 30, 3) := by decide +kernel
theorem dX11_rootOf_7 : decode cX11_rootOf 7 = .ok (.aload_n 0, 1) := by decide +kernel
theorem dX11_rootOf_8 : decode cX11_rootOf 8 = .ok (.iload_n 1, 1) := by decide +kernel
theorem dX11_rootOf_9 : decode cX11_rootOf 9 = .ok (.invokevirtual 382, 3) := by decide +kernel
theorem dX11_rootOf_12 : decode cX11_rootOf 12 = .ok (.aload_n 0, 1) := by decide +kernel
theorem dX11_rootOf_13 : decode cX11_rootOf 13 = .ok (.getfield 292, 3) := by decide +kernel
theorem dX11_rootOf_16 : decode cX11_rootOf 16 = .ok (.iconst (-1), 1) := by decide +kernel
theorem dX11_rootOf_17 : decode cX11_rootOf 17 = .ok (.ixor, 1) := by decide +kernel
theorem dX11_rootOf_18 : decode cX11_rootOf 18 = .ok (.iand, 1) := by decide +kernel
theorem dX11_rootOf_19 : decode cX11_rootOf 19 = .ok (.iload_n 2, 1) := by decide +kernel
theorem dX11_rootOf_20 : decode cX11_rootOf 20 = .ok (.invokestatic 92, 3) := by decide +kernel
theorem dX11_rootOf_23 : decode cX11_rootOf 23 = .ok (.ifCond .eq 5, 3) := by decide +kernel
theorem dX11_rootOf_26 : decode cX11_rootOf 26 = .ok (.iload_n 2, 1) := by decide +kernel
theorem dX11_rootOf_27 : decode cX11_rootOf 27 = .ok (.ireturn, 1) := by decide +kernel
theorem dX11_rootOf_28 : decode cX11_rootOf 28 = .ok (.iinc 2 1, 3) := by decide +kernel
theorem dX11_rootOf_31 : decode cX11_rootOf 31 = .ok (.goto (-29), 3) := by decide +kernel
theorem dX11_rootOf_34 : decode cX11_rootOf 34 = .ok (.iconst (-1), 1) := by decide +kernel
theorem dX11_rootOf_35 : decode cX11_rootOf 35 = .ok (.ireturn, 1) := by decide +kernel
def F_X11_rootOf (i : Nat) (X Y : Nat → Int → Int) (R : Nat → Int → Option Nat) (a : Int) : Prop := (∀ i j, rI (X i j)) → (∀ i j, rL (Y i j)) → (∃ q : Nat, (0 : Int) = q ∧ (0 : Int) ≤ a + 1 ∧ fsN (fun e => mHas (rWy X i a.toNat) e && !sdf X i e) (a.toNat + 1) 0 = fsN (fun e => mHas (rWy X i a.toNat) e && !sdf X i e) (a.toNat + 1 - q) q) ∧ (∀ (k : Int), rI k → (∃ q : Nat, k = q ∧ k ≤ a + 1 ∧ fsN (fun e => mHas (rWy X i a.toNat) e && !sdf X i e) (a.toNat + 1) 0 = fsN (fun e => mHas (rWy X i a.toNat) e && !sdf X i e) (a.toNat + 1 - q) q) → (((a < k) → ((-1) = fsN (fun e => mHas (rWy X i (a).toNat) e && !sdf X i e) ((a).toNat + 1) 0)) ∧ ((¬ (a < k)) → ((∃ n : Nat, oB X i n ∧ 0 ≤ a ∧ a ≤ n) ∧ (rI (rWy X i (a).toNat) → ((((mHas (zAnd (rWy X i (a).toNat) (zXor (X (i) 35) ((-1)))) (k)) = false) → ((rI (k + 1)) ∧ (∃ q : Nat, k + 1 = q ∧ k + 1 ≤ a + 1 ∧ fsN (fun e => mHas (rWy X i a.toNat) e && !sdf X i e) (a.toNat + 1) 0 = fsN (fun e => mHas (rWy X i a.toNat) e && !sdf X i e) (a.toNat + 1 - q) q) ∧ (((a + 1 - (k + 1)).toNat) < ((a + 1 - (k)).toNat)))) ∧ (((mHas (zAnd (rWy X i (a).toNat) (zXor (X (i) 35) ((-1)))) (k)) = true) → (k = fsN (fun e => mHas (rWy X i (a).toNat) e && !sdf X i e) ((a).toNat + 1) 0))))))))
set_option maxHeartbeats 4000000 in
set_option maxRecDepth 100000 in
theorem w_X11_rootOf {l : Launch} {D : va_G} {cy : Nat → ClassId} {bs N : Nat} {sa : Nat → Nat} {kd len : Nat → Nat} {X Y : Nat → Int → Int} {R : Nat → Int → Option Nat} {i : Nat} (hM : zM N kd len R i) (a : Int) (ha : rI a) (hF : F_X11_rootOf i X Y R a) : Met l yX11_rootOf (.code yX11_rootOf cX11_rootOf 3 (some .int) :: zTB) (zRm 3 66) (zPc D cy bs sa N kd len X Y R [.ref (bs + (i)), .int (zI (a))]) (zQi D cy bs N kd len (fun r st => r = fsN (fun e => mHas (rWy X i (a).toNat) e && !sdf X i e) ((a).toNat + 1) 0 ∧ st = (X, Y, R))) 0 0 (zA bs) := by
  refine zstart (by decide) (Nat.le_of_ble_eq_true rfl) ?_
  intro p e s m args below meth c ls C hE hH hr hlk hnm hl hargs
  have hF := hF hH.2.2.1 hH.2.2.2
  have hS : va_S (zA bs) s.heap s.heap [] := va_S.rf
  have hl : lv_has ls 3 [(0, .ref (bs + (i))), (1, .int (zI (a)))] := hl
  refine zd_iconst C dX11_rootOf_0 ?_
  refine lv_istore_n (lv' := [(2, .int (zI (0))), (0, .ref (bs + (i))), (1, .int (zI (a)))]) C.1 C.2.1 dX11_rootOf_1 rfl hl (by decide) rfl (fun ls hl => ?_)
  obtain ⟨hI1, hF⟩ := hF
  have L1 : ∀ (fu : Nat) (k : Int), rI k → (∃ q : Nat, k = q ∧ k ≤ a + 1 ∧ fsN (fun e => mHas (rWy X i a.toNat) e && !sdf X i e) (a.toNat + 1) 0 = fsN (fun e => mHas (rWy X i a.toNat) e && !sdf X i e) (a.toNat + 1 - q) q) → ((a + 1 - (k)).toNat) < fu → ∀ (H : Heap) (locs : List Loc) (ls : Array Slot), zH D cy bs N kd len X Y R H → va_S (zA bs) s.heap H locs → lv_has ls 3 [(2, .int (zI (k))), (0, .ref (bs + (i))), (1, .int (zI (a)))] → W p l e (zRm 3 66) s m args below meth c H locs 0 0 (MQ below (zQi D cy bs N kd len (fun r st => r = fsN (fun e => mHas (rWy X i (a).toNat) e && !sdf X i e) ((a).toNat + 1) 0 ∧ st = (X, Y, R))) args s 0 0 (zA bs)) (F0 m 2 ls []) := by
    intro fu
    induction fu with
    | zero => intro k _ _ hmu; exact absurd hmu (Nat.not_lt_zero _)
    | succ fu ih1 =>
      intro k hk hI hmu1 H locs ls hH hS hl
      have hF := hF k hk  hI
      refine lv_iload_n C.1 C.2.1 dX11_rootOf_2 rfl (lv_at hl 0 rfl) ?_
      refine lv_iload_n C.1 C.2.1 dX11_rootOf_3 rfl (lv_at hl 2 rfl) ?_
      refine zd_icmp_gt C hk ha 34 dX11_rootOf_4 (by decide) (fun c2 => ?_) (fun c2 => ?_)
      · have hF := hF.1 c2
        refine zd_iconst C dX11_rootOf_34 ?_
        exact zd_iret C hr hlk hH hS (by decide) (⟨hF, rfl⟩) dX11_rootOf_35
      · have hF := hF.2 c2
        refine lv_aload_n C.1 C.2.1 dX11_rootOf_7 rfl (lv_at hl 1 rfl) ?_
        refine lv_iload_n C.1 C.2.1 dX11_rootOf_8 rfl (lv_at hl 2 rfl) ?_
        obtain ⟨o3, hF⟩ := hF
        refine zgoi (zrunV (As := [.int (zI (a))]) (rest := []) C hE hH hS hl.1 (c_X11_wayTo (l := l) hM (a) ha o3) k_RX11_382 ⟨Nat.le_of_ble_eq_true rfl, Nat.le_of_ble_eq_true rfl⟩ (zM_n0 hM) (zM_k0 hM) rfl rfl rfl (Nat.le_of_ble_eq_true rfl) dX11_rootOf_9 ⟨Nat.zero_le _, Nat.zero_le _⟩) hS (fun rq Xq Yq Rq H locs hrq hq hH hS => ?_)
        obtain ⟨h91, h92⟩ := hq
        have h93 : Xq = X := congrArg (fun z => z.1) h92
        have h94 : Yq = Y := congrArg (fun z => z.2.1) h92
        have h95 : Rq = R := congrArg (fun z => z.2.2) h92
        rw [h93, h94, h95] at hH
        subst h91
        have hr4 := hrq
        have hF := hF hr4
        refine lv_aload_n C.1 C.2.1 dX11_rootOf_12 rfl (lv_at hl 1 rfl) ?_
        refine zg11_35 C hH (zM_n0 hM) (zM_k0 hM) q_1322 dX11_rootOf_13 ?_
        refine zd_iconst C dX11_rootOf_16 ?_
        refine zd_ixor C dX11_rootOf_17 ?_
        refine zd_iand C dX11_rootOf_18 ?_
        refine lv_iload_n C.1 C.2.1 dX11_rootOf_19 rfl (lv_at hl 0 rfl) ?_
        refine zgoi (zrunS (As := [.int (zI (zAnd (rWy X i (a).toNat) (zXor (X (i) 35) ((-1))))), .int (zI (k))]) (rest := []) C hE hH hS hl.1 (c_X11_has (l := l)  (zAnd (rWy X i (a).toNat) (zXor (X (i) 35) ((-1)))) (zI_rg _) (k) hk) k_RX11_92 ⟨Nat.le_of_ble_eq_true rfl, Nat.le_of_ble_eq_true rfl⟩ rfl (Nat.le_of_ble_eq_true rfl) dX11_rootOf_20 ⟨Nat.zero_le _, Nat.zero_le _⟩) hS (fun rq Xq Yq Rq H locs hrq hq hH hS => ?_)
        obtain ⟨h91, h92⟩ := hq
        have h93 : Xq = X := congrArg (fun z => z.1) h92
        have h94 : Yq = Y := congrArg (fun z => z.2.1) h92
        have h95 : Rq = R := congrArg (fun z => z.2.2) h92
        rw [h93, h94, h95] at hH
        subst h91
        refine zd_ifB_eq C 28 dX11_rootOf_23 (by decide) (fun c5 => ?_) (fun c5 => ?_)
        · have hF := hF.1 c5
          refine zd_iinc (k := 0) (lv' := [(2, .int (zI (k + 1))), (0, .ref (bs + (i))), (1, .int (zI (a)))]) C hl rfl dX11_rootOf_28 (by decide) rfl (fun ls hl => ?_)
          refine lv_goto (tgt := 2) C.1 C.2.1 dX11_rootOf_31 (by decide) ?_
          obtain ⟨o6, hF⟩ := hF
          exact ih1 (k + 1) o6 hF.1 (Nat.lt_of_lt_of_le hF.2 (Nat.le_of_lt_succ hmu1)) _ _ _ hH hS (lv_sub hl [0, 1, 2] rfl)
        · have hF := hF.2 c5
          refine lv_iload_n C.1 C.2.1 dX11_rootOf_26 rfl (lv_at hl 0 rfl) ?_
          exact zd_iret C hr hlk hH hS hk (⟨hF, rfl⟩) dX11_rootOf_27
  exact L1 (((a + 1 - ((0 : Int))).toNat) + 1) ((0 : Int)) (by decide) hI1 (Nat.lt_succ_self _) _ _ _ hH hS (lv_sub hl [0, 1, 2] rfl)
theorem v_X11_rootOf {X Y : Nat → Int → Int} {R : Nat → Int → Option Nat} {i : Nat} (a : Int) (ha : rI a) (hp : oH X Y i ∧ 0 ≤ a ∧ a < X i 27) : F_X11_rootOf i X Y R a := by
  unfold F_X11_rootOf
  intro hX hY
  have h := hp.1
  have ha := hp.2
  have h27 := h.1.2.2.1
  have hbs := h.1.2.2.2
  have h35 := h.2.2.2.1
  have hl := h.2.2.1
  have sd : ∀ q : Nat, (q : Int) < X i 27 → mHas (X i 35) q = sdf X i q := fun q hq => by
    rw [h35]
    exact bS_has _ (by omega) (by omega)
  have ep : ∀ q : Nat, 1 ≤ q → (q : Int) < X i 27 → mPar X i q = rP X i q := fun q h1 h2 => rP_c hbs.1 h1 (by omega)
  have pb : ∀ q : Nat, 1 ≤ q → (q : Int) < X i 27 → rP X i q < q := fun q h1 h2 => rP_par hbs.1 q h1 (by omega)
  have hW := (oH_W h).2.2
  refine ⟨⟨0, rfl, by omega, rfl⟩, fun k kr hI => ?_⟩
  obtain ⟨q, hq, q2, hz⟩ := hI
  subst hq
  rw [hz]
  refine ⟨fun c => ?_, fun c => ⟨⟨(X i 27 - 1).toNat, hbs.1, by omega, by omega⟩, fun _ => ?_⟩⟩
  · rw [show a.toNat + 1 - q = 0 by omega]
    rfl
  have st : fsN (fun e => mHas (rWy X i a.toNat) e && !sdf X i e) (a.toNat + 1 - q) q = if (mHas (rWy X i a.toNat) q && !sdf X i q) then (q : Int) else fsN (fun e => mHas (rWy X i a.toNat) e && !sdf X i e) (a.toNat + 1 - (q + 1)) (q + 1) := by
    obtain ⟨m, hm⟩ : ∃ m, a.toNat + 1 - q = m + 1 := ⟨a.toNat + 1 - q - 1, by omega⟩
    rw [hm, show a.toNat + 1 - (q + 1) = m by omega]
    rfl
  have e : mHas (zAnd (rWy X i a.toNat) (zXor (X i 35) (-1))) q = (mHas (rWy X i a.toNat) q && !sdf X i q) := by
    rw [mHas_zb _ (by omega), zb_and, zb_not _ (by omega), ← mHas_zb _ (by omega), ← mHas_zb _ (by omega), sd q (by omega)]
  rw [e, st]
  refine ⟨fun c1 => ⟨⟨by omega, by omega⟩, ⟨q + 1, by omega, by omega, ?_⟩, by omega⟩, fun c1 => ?_⟩
  · rw [c1]
    rfl
  · rw [c1]
    rfl
theorem c_X11_rootOf {l : Launch} {D : va_G} {cy : Nat → ClassId} {bs N : Nat} {sa : Nat → Nat} {kd len : Nat → Nat} {X Y : Nat → Int → Int} {R : Nat → Int → Option Nat} {i : Nat} (hM : zM N kd len R i) (a : Int) (ha : rI a) (hp : oH X Y i ∧ 0 ≤ a ∧ a < X i 27) : Met l yX11_rootOf (.code yX11_rootOf cX11_rootOf 3 (some .int) :: zTB) (zRm 3 66) (zPc D cy bs sa N kd len X Y R [.ref (bs + (i)), .int (zI (a))]) (zQi D cy bs N kd len (fun r st => r = fsN (fun e => mHas (rWy X i (a).toNat) e && !sdf X i e) ((a).toNat + 1) 0 ∧ st = (X, Y, R))) 0 0 (zA bs) := w_X11_rootOf hM a ha (v_X11_rootOf a ha hp)
abbrev cX11_rich : ByteArray := prog_13_method_130_code
def yX11_rich : MethodName := ⟨RX11, "rich", "(I)I"⟩
theorem dX11_rich_0 : decode cX11_rich 0 = .ok (.iconst (-1), 1) := by decide +kernel
theorem dX11_rich_1 : decode cX11_rich 1 = .ok (.istore_n 2, 1) := by decide +kernel
theorem dX11_rich_2 : decode cX11_rich 2 = .ok (.iconst 0, 1) := by decide +kernel
theorem dX11_rich_3 : decode cX11_rich 3 = .ok (.istore_n 3, 1) := by decide +kernel
theorem dX11_rich_4 : decode cX11_rich 4 = .ok (.iload_n 3, 1) := by decide +kernel
theorem dX11_rich_5 : decode cX11_rich 5 = .ok (.aload_n 0, 1) := by decide +kernel
theorem dX11_rich_6 : decode cX11_rich 6 = .ok (.getfield 261, 3) := by decide +kernel
theorem dX11_rich_9 : decode cX11_rich 9 = .ok (.if_icmp .ge 45, 3) := by decide +kernel
theorem dX11_rich_12 : decode cX11_rich 12 = .ok (.iload_n 2, 1) := by decide +kernel
theorem dX11_rich_13 : decode cX11_rich 13 = .ok (.iconst (-1), 1) := by decide +kernel
theorem dX11_rich_14 : decode cX11_rich 14 = .ok (.if_icmp .eq 28, 3) := by decide +kernel
theorem dX11_rich_17 : decode cX11_rich 17 = .ok (.aload_n 0, 1) := by decide +kernel
theorem dX11_rich_18 : decode cX11_rich 18 = .ok (.getfield 57, 3) := by decide +kernel
theorem dX11_rich_21 : decode cX11_rich 21 = .ok (.bipush 6, 2) := by decide +kernel
theorem dX11_rich_23 : decode cX11_rich 23 = .ok (.iload_n 1, 1) := by decide +kernel
theorem dX11_rich_24 : decode cX11_rich 24 = .ok (.imul, 1) := by decide +kernel
theorem dX11_rich_25 : decode cX11_rich 25 = .ok (.iload_n 3, 1) := by decide +kernel
theorem dX11_rich_26 : decode cX11_rich 26 = .ok (.iadd, 1) := by decide +kernel
theorem dX11_rich_27 : decode cX11_rich 27 = .ok (.iaload, 1) := by decide +kernel
theorem dX11_rich_28 : decode cX11_rich 28 = .ok (.aload_n 0, 1) := by decide +kernel
theorem dX11_rich_29 : decode cX11_rich 29 = .ok (.getfield 57, 3) := by decide +kernel
theorem dX11_rich_32 : decode cX11_rich 32 = .ok (.bipush 6, 2) := by decide +kernel
theorem dX11_rich_34 : decode cX11_rich 34 = .ok (.iload_n 1, 1) := by decide +kernel
theorem dX11_rich_35 : decode cX11_rich 35 = .ok (.imul, 1) := by decide +kernel
theorem dX11_rich_36 : decode cX11_rich 36 = .ok (.iload_n 2, 1) := by decide +kernel
theorem dX11_rich_37 : decode cX11_rich 37 = .ok (.iadd, 1) := by decide +kernel
theorem dX11_rich_38 : decode cX11_rich 38 = .ok (.iaload, 1) := by decide +kernel
theorem dX11_rich_39 : decode cX11_rich 39 = .ok (.if_icmp .le 7, 3) := by decide +kernel
theorem dX11_rich_42 : decode cX11_rich 42 = .ok (.iload_n 3, 1) := by decide +kernel
theorem dX11_rich_43 : decode cX11_rich 43 = .ok (.goto 4, 3) := by decide +kernel
theorem dX11_rich_46 : decode cX11_rich 46 = .ok (.iload_n 2, 1) := by decide +kernel
theorem dX11_rich_47 : decode cX11_rich 47 = .ok (.istore_n 2, 1) := by decide +kernel
theorem dX11_rich_48 : decode cX11_rich 48 = .ok (.iinc 3 1, 3) := by decide +kernel
theorem dX11_rich_51 : decode cX11_rich 51 = .ok (.goto (-47), 3) := by decide +kernel
theorem dX11_rich_54 : decode cX11_rich 54 = .ok (.iload_n 2, 1) := by decide +kernel
theorem dX11_rich_55 : decode cX11_rich 55 = .ok (.ireturn, 1) := by decide +kernel
def F_X11_rich (i : Nat) (X Y : Nat → Int → Int) (R : Nat → Int → Option Nat) (a : Int) : Prop := (∀ i j, rI (X i j)) → (∀ i j, rL (Y i j)) → (∃ q : Nat, (0 : Int) = q ∧ (0 : Int) ≤ X i 26 ∧ (-1 : Int) = riN (fun z => X (i + 16) (6 * a + z)) q) ∧ (∀ (best : Int) (k : Int), rI best → rI k → (∃ q : Nat, k = q ∧ k ≤ X i 26 ∧ best = riN (fun z => X (i + 16) (6 * a + z)) q) → ((((X (i) 26) ≤ k) → (best = riN (fun z => X (i + 16) (6 * (a) + z)) (X i 26).toNat)) ∧ ((¬ ((X (i) 26) ≤ k)) → (((best = (-1)) → ((rI (k + 1)) ∧ (∃ q : Nat, k + 1 = q ∧ k + 1 ≤ X i 26 ∧ k = riN (fun z => X (i + 16) (6 * a + z)) q) ∧ (((X i 26 - (k + 1)).toNat) < ((X i 26 - (k)).toNat)))) ∧ ((¬ (best = (-1))) → ((0 ≤ ((6 * a) + k) ∧ ((6 * a) + k) < 90) ∧ ((0 ≤ ((6 * a) + best) ∧ ((6 * a) + best) < 90) ∧ ((((X (i + 16) ((6 * a) + k)) ≤ (X (i + 16) ((6 * a) + best))) → ((rI (k + 1)) ∧ (∃ q : Nat, k + 1 = q ∧ k + 1 ≤ X i 26 ∧ best = riN (fun z => X (i + 16) (6 * a + z)) q) ∧ (((X i 26 - (k + 1)).toNat) < ((X i 26 - (k)).toNat)))) ∧ ((¬ ((X (i + 16) ((6 * a) + k)) ≤ (X (i + 16) ((6 * a) + best)))) → ((rI (k + 1)) ∧ (∃ q : Nat, k + 1 = q ∧ k + 1 ≤ X i 26 ∧ k = riN (fun z => X (i + 16) (6 * a + z)) q) ∧ (((X i 26 - (k + 1)).toNat) < ((X i 26 - (k)).toNat))))))))))))
set_option maxHeartbeats 4000000 in
set_option maxRecDepth 100000 in
theorem w_X11_rich {l : Launch} {D : va_G} {cy : Nat → ClassId} {bs N : Nat} {sa : Nat → Nat} {kd len : Nat → Nat} {X Y : Nat → Int → Int} {R : Nat → Int → Option Nat} {i : Nat} (hM : zM N kd len R i) (a : Int) (ha : rI a) (hF : F_X11_rich i X Y R a) : Met l yX11_rich (.code yX11_rich cX11_rich 4 (some .int) :: zTB) (zRm 0 0) (zPc D cy bs sa N kd len X Y R [.ref (bs + (i)), .int (zI (a))]) (zQi D cy bs N kd len (fun r st => r = riN (fun z => X (i + 16) (6 * (a) + z)) (X i 26).toNat ∧ st = (X, Y, R))) 0 0 (zA bs) := by
  refine zstart (by decide) (Nat.le_of_ble_eq_true rfl) ?_
  intro p e s m args below meth c ls C hE hH hr hlk hnm hl hargs
  have hF := hF hH.2.2.1 hH.2.2.2
  have hS : va_S (zA bs) s.heap s.heap [] := va_S.rf
  have hl : lv_has ls 4 [(0, .ref (bs + (i))), (1, .int (zI (a)))] := hl
  refine zd_iconst C dX11_rich_0 ?_
  refine lv_istore_n (lv' := [(2, .int (zI ((-1)))), (0, .ref (bs + (i))), (1, .int (zI (a)))]) C.1 C.2.1 dX11_rich_1 rfl hl (by decide) rfl (fun ls hl => ?_)
  refine zd_iconst C dX11_rich_2 ?_
  refine lv_istore_n (lv' := [(3, .int (zI (0))), (2, .int (zI ((-1)))), (0, .ref (bs + (i))), (1, .int (zI (a)))]) C.1 C.2.1 dX11_rich_3 rfl hl (by decide) rfl (fun ls hl => ?_)
  obtain ⟨hI1, hF⟩ := hF
  have L1 : ∀ (fu : Nat) (best : Int) (k : Int), rI best → rI k → (∃ q : Nat, k = q ∧ k ≤ X i 26 ∧ best = riN (fun z => X (i + 16) (6 * a + z)) q) → ((X i 26 - (k)).toNat) < fu → ∀ (H : Heap) (locs : List Loc) (ls : Array Slot), zH D cy bs N kd len X Y R H → va_S (zA bs) s.heap H locs → lv_has ls 4 [(2, .int (zI (best))), (3, .int (zI (k))), (0, .ref (bs + (i))), (1, .int (zI (a)))] → W p l e (zRm 0 0) s m args below meth c H locs 0 0 (MQ below (zQi D cy bs N kd len (fun r st => r = riN (fun z => X (i + 16) (6 * (a) + z)) (X i 26).toNat ∧ st = (X, Y, R))) args s 0 0 (zA bs)) (F0 m 4 ls []) := by
    intro fu
    induction fu with
    | zero => intro best k _ _ _ hmu; exact absurd hmu (Nat.not_lt_zero _)
    | succ fu ih1 =>
      intro best k hbest hk hI hmu1 H locs ls hH hS hl
      have hF := hF best k hbest hk  hI
      refine lv_iload_n C.1 C.2.1 dX11_rich_4 rfl (lv_at hl 1 rfl) ?_
      refine lv_aload_n C.1 C.2.1 dX11_rich_5 rfl (lv_at hl 2 rfl) ?_
      refine zg11_26 C hH (zM_n0 hM) (zM_k0 hM) q_1313 dX11_rich_6 ?_
      refine zd_icmp_ge C hk (hH.2.2.1 _ _) 54 dX11_rich_9 (by decide) (fun c2 => ?_) (fun c2 => ?_)
      · have hF := hF.1 c2
        refine lv_iload_n C.1 C.2.1 dX11_rich_54 rfl (lv_at hl 0 rfl) ?_
        exact zd_iret C hr hlk hH hS hbest (⟨hF, rfl⟩) dX11_rich_55
      · have hF := hF.2 c2
        refine lv_iload_n C.1 C.2.1 dX11_rich_12 rfl (lv_at hl 0 rfl) ?_
        refine zd_iconst C dX11_rich_13 ?_
        refine zd_icmp_eq C hbest (by decide) 42 dX11_rich_14 (by decide) (fun c3 => ?_) (fun c3 => ?_)
        · have hF := hF.1 c3
          refine lv_iload_n C.1 C.2.1 dX11_rich_42 rfl (lv_at hl 1 rfl) ?_
          refine lv_goto (tgt := 47) C.1 C.2.1 dX11_rich_43 (by decide) ?_
          refine lv_istore_n (lv' := [(2, .int (zI (k))), (3, .int (zI (k))), (0, .ref (bs + (i))), (1, .int (zI (a)))]) C.1 C.2.1 dX11_rich_47 rfl hl (by decide) rfl (fun ls hl => ?_)
          refine zd_iinc (k := 1) (lv' := [(3, .int (zI (k + 1))), (2, .int (zI (k))), (0, .ref (bs + (i))), (1, .int (zI (a)))]) C hl rfl dX11_rich_48 (by decide) rfl (fun ls hl => ?_)
          refine lv_goto (tgt := 4) C.1 C.2.1 dX11_rich_51 (by decide) ?_
          obtain ⟨o4, hF⟩ := hF
          exact ih1 (k) (k + 1) hk o4 hF.1 (Nat.lt_of_lt_of_le hF.2 (Nat.le_of_lt_succ hmu1)) _ _ _ hH hS (lv_sub hl [1, 0, 2, 3] rfl)
        · have hF := hF.2 c3
          refine lv_aload_n C.1 C.2.1 dX11_rich_17 rfl (lv_at hl 2 rfl) ?_
          refine zg11_34 C hH (zM_n0 hM) (zM_k0 hM) q_1321 (zM_r16 hM) dX11_rich_18 ?_
          refine zd_bipush C (by decide) dX11_rich_21 ?_
          refine lv_iload_n C.1 C.2.1 dX11_rich_23 rfl (lv_at hl 3 rfl) ?_
          refine zd_imul C dX11_rich_24 ?_
          refine lv_iload_n C.1 C.2.1 dX11_rich_25 rfl (lv_at hl 1 rfl) ?_
          refine zd_iadd C dX11_rich_26 ?_
          obtain ⟨o5, hF⟩ := hF
          refine zd_iald C hH (zM_n16 hM) (zM_k16 hM) o5.1 (by rw [zM_l16 hM]; exact o5.2) (by rw [zM_l16 hM]; decide) dX11_rich_27 ?_
          refine lv_aload_n C.1 C.2.1 dX11_rich_28 rfl (lv_at hl 2 rfl) ?_
          refine zg11_34 C hH (zM_n0 hM) (zM_k0 hM) q_1321 (zM_r16 hM) dX11_rich_29 ?_
          refine zd_bipush C (by decide) dX11_rich_32 ?_
          refine lv_iload_n C.1 C.2.1 dX11_rich_34 rfl (lv_at hl 3 rfl) ?_
          refine zd_imul C dX11_rich_35 ?_
          refine lv_iload_n C.1 C.2.1 dX11_rich_36 rfl (lv_at hl 0 rfl) ?_
          refine zd_iadd C dX11_rich_37 ?_
          obtain ⟨o6, hF⟩ := hF
          refine zd_iald C hH (zM_n16 hM) (zM_k16 hM) o6.1 (by rw [zM_l16 hM]; exact o6.2) (by rw [zM_l16 hM]; decide) dX11_rich_38 ?_
          refine zd_icmp_le C (hH.2.2.1 _ _) (hH.2.2.1 _ _) 46 dX11_rich_39 (by decide) (fun c7 => ?_) (fun c7 => ?_)
          · have hF := hF.1 c7
            refine lv_iload_n C.1 C.2.1 dX11_rich_46 rfl (lv_at hl 0 rfl) ?_
            refine lv_istore_n (lv' := [(2, .int (zI (best))), (3, .int (zI (k))), (0, .ref (bs + (i))), (1, .int (zI (a)))]) C.1 C.2.1 dX11_rich_47 rfl hl (by decide) rfl (fun ls hl => ?_)
            refine zd_iinc (k := 1) (lv' := [(3, .int (zI (k + 1))), (2, .int (zI (best))), (0, .ref (bs + (i))), (1, .int (zI (a)))]) C hl rfl dX11_rich_48 (by decide) rfl (fun ls hl => ?_)
            refine lv_goto (tgt := 4) C.1 C.2.1 dX11_rich_51 (by decide) ?_
            obtain ⟨o8, hF⟩ := hF
            exact ih1 (best) (k + 1) hbest o8 hF.1 (Nat.lt_of_lt_of_le hF.2 (Nat.le_of_lt_succ hmu1)) _ _ _ hH hS (lv_sub hl [1, 0, 2, 3] rfl)
          · have hF := hF.2 c7
            refine lv_iload_n C.1 C.2.1 dX11_rich_42 rfl (lv_at hl 1 rfl) ?_
            refine lv_goto (tgt := 47) C.1 C.2.1 dX11_rich_43 (by decide) ?_
            refine lv_istore_n (lv' := [(2, .int (zI (k))), (3, .int (zI (k))), (0, .ref (bs + (i))), (1, .int (zI (a)))]) C.1 C.2.1 dX11_rich_47 rfl hl (by decide) rfl (fun ls hl => ?_)
            refine zd_iinc (k := 1) (lv' := [(3, .int (zI (k + 1))), (2, .int (zI (k))), (0, .ref (bs + (i))), (1, .int (zI (a)))]) C hl rfl dX11_rich_48 (by decide) rfl (fun ls hl => ?_)
            refine lv_goto (tgt := 4) C.1 C.2.1 dX11_rich_51 (by decide) ?_
            obtain ⟨o9, hF⟩ := hF
            exact ih1 (k) (k + 1) hk o9 hF.1 (Nat.lt_of_lt_of_le hF.2 (Nat.le_of_lt_succ hmu1)) _ _ _ hH hS (lv_sub hl [1, 0, 2, 3] rfl)
  exact L1 (((X i 26 - ((0 : Int))).toNat) + 1) ((-1 : Int)) ((0 : Int)) (by decide) (by decide) hI1 (Nat.lt_succ_self _) _ _ _ hH hS (lv_sub hl [1, 0, 2, 3] rfl)
theorem v_X11_rich {X Y : Nat → Int → Int} {R : Nat → Int → Option Nat} {i : Nat} (a : Int) (ha : rI a) (hp : oH X Y i ∧ 0 ≤ a ∧ a < X i 27) : F_X11_rich i X Y R a := by
  unfold F_X11_rich
  intro hX hY
  have h := hp.1
  have ha := hp.2
  have h27 := h.1.2.2.1
  have hbs := h.1.2.2.2
  have h35 := h.2.2.2.1
  have hl := h.2.2.1
  have sd : ∀ q : Nat, (q : Int) < X i 27 → mHas (X i 35) q = sdf X i q := fun q hq => by
    rw [h35]
    exact bS_has _ (by omega) (by omega)
  have ep : ∀ q : Nat, 1 ≤ q → (q : Int) < X i 27 → mPar X i q = rP X i q := fun q h1 h2 => rP_c hbs.1 h1 (by omega)
  have pb : ∀ q : Nat, 1 ≤ q → (q : Int) < X i 27 → rP X i q < q := fun q h1 h2 => rP_par hbs.1 q h1 (by omega)
  have hW := (oH_W h).2.2
  have hA := h.1.2.1.1
  refine ⟨⟨0, rfl, hA.1, rfl⟩, fun best k br kr hI => ?_⟩
  obtain ⟨q, hq, q2, hz⟩ := hI
  subst hq
  refine ⟨fun c => by rw [hz, show (X i 26).toNat = q by omega], fun c => ?_⟩
  have hb := riN_b (fun z => X (i + 16) (6 * a + z)) q
  have st : riN (fun z => X (i + 16) (6 * a + z)) (q + 1) = if riN (fun z => X (i + 16) (6 * a + z)) q = -1 ∨ X (i + 16) (6 * a + riN (fun z => X (i + 16) (6 * a + z)) q) < X (i + 16) (6 * a + q) then (q : Int) else riN (fun z => X (i + 16) (6 * a + z)) q := rfl
  rw [← hz] at hb st
  refine ⟨fun c1 => ⟨⟨by omega, by omega⟩, ⟨q + 1, by omega, by omega, ?_⟩, by omega⟩, fun c1 => ⟨⟨by omega, by omega⟩, ⟨by omega, by omega⟩, fun c2 => ⟨⟨by omega, by omega⟩, ⟨q + 1, by omega, by omega, ?_⟩, by omega⟩, fun c2 => ⟨⟨by omega, by omega⟩, ⟨q + 1, by omega, by omega, ?_⟩, by omega⟩⟩⟩
  · rw [st, if_pos (Or.inl c1)]
  · rw [st, if_neg (fun g => g.elim (fun g => c1 g) (fun g => by omega))]
  · rw [st, if_pos (Or.inr (by omega))]
theorem c_X11_rich {l : Launch} {D : va_G} {cy : Nat → ClassId} {bs N : Nat} {sa : Nat → Nat} {kd len : Nat → Nat} {X Y : Nat → Int → Int} {R : Nat → Int → Option Nat} {i : Nat} (hM : zM N kd len R i) (a : Int) (ha : rI a) (hp : oH X Y i ∧ 0 ≤ a ∧ a < X i 27) : Met l yX11_rich (.code yX11_rich cX11_rich 4 (some .int) :: zTB) (zRm 0 0) (zPc D cy bs sa N kd len X Y R [.ref (bs + (i)), .int (zI (a))]) (zQi D cy bs N kd len (fun r st => r = riN (fun z => X (i + 16) (6 * (a) + z)) (X i 26).toNat ∧ st = (X, Y, R))) 0 0 (zA bs) := w_X11_rich hM a ha (v_X11_rich a ha hp)
abbrev cX11_sure : ByteArray := prog_13_method_111_code
def yX11_sure : MethodName := ⟨RX11, "sure", "(I)I"⟩
theorem dX11_sure_0 : decode cX11_sure 0 = .ok (.iconst 0, 1) := by decide +kernel
theorem dX11_sure_1 : decode cX11_sure 1 = .ok (.istore_n 1, 1) := by decide +kernel
theorem dX11_sure_2 : decode cX11_sure 2 = .ok (.iload_n 1, 1) := by decide +kernel
theorem dX11_sure_3 : decode cX11_sure 3 = .ok (.bipush 10, 2) := by decide +kernel
theorem dX11_sure_5 : decode cX11_sure 5 = .ok (.if_icmp .ge 18, 3) := by decide +kernel
theorem dX11_sure_8 : decode cX11_sure 8 = .ok (.iload_n 0, 1) := by decide +kernel
theorem dX11_sure_9 : decode cX11_sure 9 = .ok (.iconst 1, 1) := by decide +kernel
theorem dX11_sure_10 : decode cX11_sure 10 = .ok (.iload_n 1, 1) := by decide +kernel
theorem dX11_sure_11 : decode cX11_sure 11 = .ok (.ishl, 1) := by decide +kernel
theorem dX11_sure_12 : decode cX11_sure 12 = .ok (.if_icmp .ne 5, 3) := by decide +kernel
theorem dX11_sure_15 : decode cX11_sure 15 = .ok (.iload_n 1, 1) := by decide +kernel
theorem dX11_sure_16 : decode cX11_sure 16 = .ok (.ireturn, 1) := by decide +kernel
theorem dX11_sure_17 : decode cX11_sure 17 = .ok (.iinc 1 1, 3) := by decide +kernel
theorem dX11_sure_20 : decode cX11_sure 20 = .ok (.goto (-18), 3) := by decide +kernel
theorem dX11_sure_23 : decode cX11_sure 23 = .ok (.iconst (-1), 1) := by decide +kernel
theorem dX11_sure_24 : decode cX11_sure 24 = .ok (.ireturn, 1) := by decide +kernel
def F_X11_sure (X Y : Nat → Int → Int) (R : Nat → Int → Option Nat) (a : Int) : Prop := (∀ i j, rI (X i j)) → (∀ i j, rL (Y i j)) → (∃ q : Nat, (0 : Int) = q ∧ q ≤ 10 ∧ fsN (fun v => decide (a = zShl 1 v)) 10 0 = fsN (fun v => decide (a = zShl 1 v)) (10 - q) q) ∧ (∀ (k : Int), rI k → (∃ q : Nat, k = q ∧ q ≤ 10 ∧ fsN (fun v => decide (a = zShl 1 v)) 10 0 = fsN (fun v => decide (a = zShl 1 v)) (10 - q) q) → (((10 ≤ k) → ((-1) = fsN (fun v => decide (a = zShl 1 v)) 10 0)) ∧ ((¬ (10 ≤ k)) → (((¬ a = (zShl (1) (k))) → ((rI (k + 1)) ∧ (∃ q : Nat, k + 1 = q ∧ q ≤ 10 ∧ fsN (fun v => decide (a = zShl 1 v)) 10 0 = fsN (fun v => decide (a = zShl 1 v)) (10 - q) q) ∧ (((10 - (k + 1)).toNat) < ((10 - (k)).toNat)))) ∧ ((¬ (¬ a = (zShl (1) (k)))) → (k = fsN (fun v => decide (a = zShl 1 v)) 10 0))))))
set_option maxHeartbeats 4000000 in
set_option maxRecDepth 100000 in
theorem w_X11_sure {l : Launch} {D : va_G} {cy : Nat → ClassId} {bs N : Nat} {sa : Nat → Nat} {kd len : Nat → Nat} {X Y : Nat → Int → Int} {R : Nat → Int → Option Nat}  (a : Int) (ha : rI a) (hF : F_X11_sure  X Y R a) : Met l yX11_sure (.code yX11_sure cX11_sure 2 (some .int) :: zTB) (zRm 0 0) (zPc D cy bs sa N kd len X Y R [.int (zI (a))]) (zQi D cy bs N kd len (fun r st => r = fsN (fun v => decide (a = zShl 1 v)) 10 0 ∧ st = (X, Y, R))) 0 0 (zA bs) := by
  refine zstart (by decide) (Nat.le_of_ble_eq_true rfl) ?_
  intro p e s m args below meth c ls C hE hH hr hlk hnm hl hargs
  have hF := hF hH.2.2.1 hH.2.2.2
  have hS : va_S (zA bs) s.heap s.heap [] := va_S.rf
  have hl : lv_has ls 2 [(0, .int (zI (a)))] := hl
  refine zd_iconst C dX11_sure_0 ?_
  refine lv_istore_n (lv' := [(1, .int (zI (0))), (0, .int (zI (a)))]) C.1 C.2.1 dX11_sure_1 rfl hl (by decide) rfl (fun ls hl => ?_)
  obtain ⟨hI1, hF⟩ := hF
  have L1 : ∀ (fu : Nat) (k : Int), rI k → (∃ q : Nat, k = q ∧ q ≤ 10 ∧ fsN (fun v => decide (a = zShl 1 v)) 10 0 = fsN (fun v => decide (a = zShl 1 v)) (10 - q) q) → ((10 - (k)).toNat) < fu → ∀ (H : Heap) (locs : List Loc) (ls : Array Slot), zH D cy bs N kd len X Y R H → va_S (zA bs) s.heap H locs → lv_has ls 2 [(1, .int (zI (k))), (0, .int (zI (a)))] → W p l e (zRm 0 0) s m args below meth c H locs 0 0 (MQ below (zQi D cy bs N kd len (fun r st => r = fsN (fun v => decide (a = zShl 1 v)) 10 0 ∧ st = (X, Y, R))) args s 0 0 (zA bs)) (F0 m 2 ls []) := by
    intro fu
    induction fu with
    | zero => intro k _ _ hmu; exact absurd hmu (Nat.not_lt_zero _)
    | succ fu ih1 =>
      intro k hk hI hmu1 H locs ls hH hS hl
      have hF := hF k hk  hI
      refine lv_iload_n C.1 C.2.1 dX11_sure_2 rfl (lv_at hl 0 rfl) ?_
      refine zd_bipush C (by decide) dX11_sure_3 ?_
      refine zd_icmp_ge C hk (by decide) 23 dX11_sure_5 (by decide) (fun c2 => ?_) (fun c2 => ?_)
      · have hF := hF.1 c2
        refine zd_iconst C dX11_sure_23 ?_
        exact zd_iret C hr hlk hH hS (by decide) (⟨hF, rfl⟩) dX11_sure_24
      · have hF := hF.2 c2
        refine lv_iload_n C.1 C.2.1 dX11_sure_8 rfl (lv_at hl 1 rfl) ?_
        refine zd_iconst C dX11_sure_9 ?_
        refine lv_iload_n C.1 C.2.1 dX11_sure_10 rfl (lv_at hl 0 rfl) ?_
        refine zd_ishl C dX11_sure_11 ?_
        refine zd_icmp_ne C ha (zI_rg _) 17 dX11_sure_12 (by decide) (fun c3 => ?_) (fun c3 => ?_)
        · have hF := hF.1 c3
          refine zd_iinc (k := 0) (lv' := [(1, .int (zI (k + 1))), (0, .int (zI (a)))]) C hl rfl dX11_sure_17 (by decide) rfl (fun ls hl => ?_)
          refine lv_goto (tgt := 2) C.1 C.2.1 dX11_sure_20 (by decide) ?_
          obtain ⟨o4, hF⟩ := hF
          exact ih1 (k + 1) o4 hF.1 (Nat.lt_of_lt_of_le hF.2 (Nat.le_of_lt_succ hmu1)) _ _ _ hH hS (lv_sub hl [0, 1] rfl)
        · have hF := hF.2 c3
          refine lv_iload_n C.1 C.2.1 dX11_sure_15 rfl (lv_at hl 0 rfl) ?_
          exact zd_iret C hr hlk hH hS hk (⟨hF, rfl⟩) dX11_sure_16
  exact L1 (((10 - ((0 : Int))).toNat) + 1) ((0 : Int)) (by decide) hI1 (Nat.lt_succ_self _) _ _ _ hH hS (lv_sub hl [0, 1] rfl)
theorem v_X11_sure {X Y : Nat → Int → Int} {R : Nat → Int → Option Nat}  (a : Int) (ha : rI a) : F_X11_sure  X Y R a := by
  unfold F_X11_sure
  intro hX hY
  refine ⟨⟨0, rfl, by decide, rfl⟩, fun k kr hI => ?_⟩
  obtain ⟨q, hq, q2, hz⟩ := hI
  subst hq
  rw [hz]
  refine ⟨fun c => ?_, fun c => ?_⟩
  · rw [show 10 - q = 0 by omega]
    rfl
  have st : fsN (fun v => decide (a = zShl 1 v)) (10 - q) q = if decide (a = zShl 1 q) then (q : Int) else fsN (fun v => decide (a = zShl 1 v)) (10 - (q + 1)) (q + 1) := by
    obtain ⟨m, hm⟩ : ∃ m, 10 - q = m + 1 := ⟨10 - q - 1, by omega⟩
    rw [hm, show 10 - (q + 1) = m by omega]
    rfl
  rw [st]
  refine ⟨fun c1 => ⟨⟨by omega, by omega⟩, ⟨q + 1, by omega, by omega, ?_⟩, by omega⟩, fun c1 => ?_⟩
  · rw [decide_eq_false c1]
    rfl
  · rw [decide_eq_true (Classical.not_not.mp c1)]
    rfl
theorem c_X11_sure {l : Launch} {D : va_G} {cy : Nat → ClassId} {bs N : Nat} {sa : Nat → Nat} {kd len : Nat → Nat} {X Y : Nat → Int → Int} {R : Nat → Int → Option Nat}  (a : Int) (ha : rI a) : Met l yX11_sure (.code yX11_sure cX11_sure 2 (some .int) :: zTB) (zRm 0 0) (zPc D cy bs sa N kd len X Y R [.int (zI (a))]) (zQi D cy bs N kd len (fun r st => r = fsN (fun v => decide (a = zShl 1 v)) 10 0 ∧ st = (X, Y, R))) 0 0 (zA bs) := w_X11_sure  a ha (v_X11_sure a ha)
abbrev cX11_uncles : ByteArray := prog_13_method_129_code
def yX11_uncles : MethodName := ⟨RX11, "uncles", "(I)I"⟩
theorem dX11_uncles_0 : decode cX11_uncles 0 = .ok (.aload_n 0, 1) := by decide +kernel
theorem dX11_uncles_1 : decode cX11_uncles 1 = .ok (.iload_n 1, 1) := by decide +kernel
theorem dX11_uncles_2 : decode cX11_uncles 2 = .ok (.invokevirtual 382, 3) := by decide +kernel
theorem dX11_uncles_5 : decode cX11_uncles 5 = .ok (.istore_n 2, 1) := by decide +kernel
theorem dX11_uncles_6 : decode cX11_uncles 6 = .ok (.iload_n 2, 1) := by decide +kernel
theorem dX11_uncles_7 : decode cX11_uncles 7 = .ok (.iconst 1, 1) := by decide +kernel
theorem dX11_uncles_8 : decode cX11_uncles 8 = .ok (.iload_n 1, 1) := by decide +kernel
theorem dX11_uncles_9 : decode cX11_uncles 9 = .ok (.ishl, 1) := by decide +kernel
theorem dX11_uncles_10 : decode cX11_uncles 10 = .ok (.iconst (-1), 1) := by decide +kernel
theorem dX11_uncles_11 : decode cX11_uncles 11 = .ok (.ixor, 1) := by decide +kernel
theorem dX11_uncles_12 : decode cX11_uncles 12 = .ok (.iand, 1) := by decide +kernel
theorem dX11_uncles_13 : decode cX11_uncles 13 = .ok (.istore_n 3, 1) := by decide +kernel
theorem dX11_uncles_14 : decode cX11_uncles 14 = .ok (.iload_n 3, 1) := by decide +kernel
theorem dX11_uncles_15 : decode cX11_uncles 15 = .ok (.iload_n 1, 1) := by decide +kernel
theorem dX11_uncles_16 : decode cX11_uncles 16 = .ok (.ifCond .ne 7, 3) := by decide +kernel
theorem dX11_uncles_19 : decode cX11_uncles 19 = .ok (.iconst 0, 1) := by decide +kernel
theorem dX11_uncles_20 : decode cX11_uncles 20 = .ok (.goto 12, 3) := by decide +kernel
theorem dX11_uncles_23 : decode cX11_uncles 23 = .ok (.iconst 1, 1) := by decide +kernel
theorem dX11_uncles_24 : decode cX11_uncles 24 = .ok (.aload_n 0, 1) := by decide +kernel
theorem dX11_uncles_25 : decode cX11_uncles 25 = .ok (.iload_n 1, 1) := by decide +kernel
theorem dX11_uncles_26 : decode cX11_uncles 26 = .ok (.invokevirtual 264, 3) := by decide +kernel
theorem dX11_uncles_29 : decode cX11_uncles 29 = .ok (.ishl, 1) := by decide +kernel
theorem dX11_uncles_30 : decode cX11_uncles 30 = .ok (.iconst (-1), 1) := by decide +kernel
theorem dX11_uncles_31 : decode cX11_uncles 31 = .ok (.ixor, 1) := by decide +kernel
theorem dX11_uncles_32 : decode cX11_uncles 32 = .ok (.iand, 1) := by decide +kernel
theorem dX11_uncles_33 : decode cX11_uncles 33 = .ok (.istore_n 3, 1) := by decide +kernel
theorem dX11_uncles_34 : decode cX11_uncles 34 = .ok (.iconst 0, 1) := by decide +kernel
theorem dX11_uncles_35 : decode cX11_uncles 35 = .ok (.istore 4, 2) := by decide +kernel
theorem dX11_uncles_37 : decode cX11_uncles 37 = .ok (.iconst 1, 1) := by decide +kernel
theorem dX11_uncles_38 : decode cX11_uncles 38 = .ok (.istore 5, 2) := by decide +kernel
theorem dX11_uncles_40 : decode cX11_uncles 40 = .ok (.iload 5, 2) := by decide +kernel
theorem dX11_uncles_42 : decode cX11_uncles 42 = .ok (.aload_n 0, 1) := by decide +kernel
theorem dX11_uncles_43 : decode cX11_uncles 43 = .ok (.getfield 255, 3) := by decide +kernel
theorem dX11_uncles_46 : decode cX11_uncles 46 = .ok (.if_icmp .ge 56, 3) := by decide +kernel
theorem dX11_uncles_49 : decode cX11_uncles 49 = .ok (.iload 4, 2) := by decide +kernel
theorem dX11_uncles_51 : decode cX11_uncles 51 = .ok (.aload_n 0, 1) := by decide +kernel
theorem dX11_uncles_52 : decode cX11_uncles 52 = .ok (.getfield 292, 3) := by decide +kernel
theorem dX11_uncles_55 : decode cX11_uncles 55 = .ok (.iload 5, 2) := by decide +kernel
theorem dX11_uncles_57 : decode cX11_uncles 57 = .ok (.invokestatic 92, 3) := by decide +kernel
theorem dX11_uncles_60 : decode cX11_uncles 60 = .ok (.ifCond .eq 32, 3) := by decide +kernel
theorem dX11_uncles_63 : decode cX11_uncles 63 = .ok (.iload_n 2, 1) := by decide +kernel
theorem dX11_uncles_64 : decode cX11_uncles 64 = .ok (.iload 5, 2) := by decide +kernel
theorem dX11_uncles_66 : decode cX11_uncles 66 = .ok (.invokestatic 92, 3) := by decide +kernel
theorem dX11_uncles_69 : decode cX11_uncles 69 = .ok (.ifCond .ne 23, 3) := by decide +kernel
theorem dX11_uncles_72 : decode cX11_uncles 72 = .ok (.iload_n 3, 1) := by decide +kernel
theorem dX11_uncles_73 : decode cX11_uncles 73 = .ok (.aload_n 0, 1) := by decide +kernel
theorem dX11_uncles_74 : decode cX11_uncles 74 = .ok (.iload 5, 2) := by decide +kernel
theorem dX11_uncles_76 : decode cX11_uncles 76 = .ok (.invokevirtual 264, 3) := by decide +kernel
theorem dX11_uncles_79 : decode cX11_uncles 79 = .ok (.invokestatic 92, 3) := by decide +kernel
theorem dX11_uncles_82 : decode cX11_uncles 82 = .ok (.ifCond .eq 10, 3) := by decide +kernel
theorem dX11_uncles_85 : decode cX11_uncles 85 = .ok (.iconst 1, 1) := by decide +kernel
theorem dX11_uncles_86 : decode cX11_uncles 86 = .ok (.iload 5, 2) := by decide +kernel
theorem dX11_uncles_88 : decode cX11_uncles 88 = .ok (.ishl, 1) := by decide +kernel
theorem dX11_uncles_89 : decode cX11_uncles 89 = .ok (.goto 4, 3) := by decide +kernel
theorem dX11_uncles_92 : decode cX11_uncles 92 = .ok (.iconst 0, 1) := by decide +kernel
theorem dX11_uncles_93 : decode cX11_uncles 93 = .ok (.ior, 1) := by decide +kernel
theorem dX11_uncles_94 : decode cX11_uncles 94 = .ok (.istore 4, 2) := by decide +kernel
theorem dX11_uncles_96 : decode cX11_uncles 96 = .ok (.iinc 5 1, 3) := by decide +kernel
theorem dX11_uncles_99 : decode cX11_uncles 99 = .ok (.goto (-59), 3) := by decide +kernel
theorem dX11_uncles_102 : decode cX11_uncles 102 = .ok (.iload 4, 2) := by decide +kernel
theorem dX11_uncles_104 : decode cX11_uncles 104 = .ok (.ireturn, 1) := by decide +kernel
def F_X11_uncles (i : Nat) (X Y : Nat → Int → Int) (R : Nat → Int → Option Nat) (a : Int) : Prop := (∀ i j, rI (X i j)) → (∀ i j, rL (Y i j)) → (∃ n : Nat, oB X i n ∧ 0 ≤ a ∧ a ≤ n) ∧ (rI (rWy X i (a).toNat) → (((¬ a = 0) → ((oC X i ∧ 0 ≤ a ∧ a ≤ 14) ∧ (rI (mPar X i (a)) → ((∃ q : Nat, (1 : Int) = q ∧ 1 ≤ q ∧ (1 : Int) ≤ X i 27 ∧ zAnd (zAnd (rWy X i (a).toNat) (zXor (zShl (1) (a)) ((-1)))) (zXor (zShl (1) (mPar X i (a))) ((-1))) = unA (rP X i) a.toNat ∧ (0 : Int) = bS (fUn (rP X i) (sdf X i) a.toNat) q) ∧ (∀ (z : Int) (k : Int) (ah : Int), rI z → rI k → rI ah → (∃ q : Nat, k = q ∧ 1 ≤ q ∧ k ≤ X i 27 ∧ ah = unA (rP X i) a.toNat ∧ z = bS (fUn (rP X i) (sdf X i) a.toNat) q) → ((((X (i) 27) ≤ k) → (z = bS (fUn (rP X i) (sdf X i) (a).toNat) (X i 27).toNat)) ∧ ((¬ ((X (i) 27) ≤ k)) → ((((mHas (X (i) 35) (k)) = false) → ((rI (k + 1)) ∧ (∃ q : Nat, k + 1 = q ∧ 1 ≤ q ∧ k + 1 ≤ X i 27 ∧ ah = unA (rP X i) a.toNat ∧ zOr (z) (0) = bS (fUn (rP X i) (sdf X i) a.toNat) q) ∧ (((X i 27 - (k + 1)).toNat) < ((X i 27 - (k)).toNat)))) ∧ (((mHas (X (i) 35) (k)) = true) → ((((mHas (rWy X i (a).toNat) (k)) = true) → ((rI (k + 1)) ∧ (∃ q : Nat, k + 1 = q ∧ 1 ≤ q ∧ k + 1 ≤ X i 27 ∧ ah = unA (rP X i) a.toNat ∧ zOr (z) (0) = bS (fUn (rP X i) (sdf X i) a.toNat) q) ∧ (((X i 27 - (k + 1)).toNat) < ((X i 27 - (k)).toNat)))) ∧ (((mHas (rWy X i (a).toNat) (k)) = false) → ((oC X i ∧ 0 ≤ k ∧ k ≤ 14) ∧ (rI (mPar X i (k)) → ((((mHas (ah) (mPar X i (k))) = false) → ((rI (k + 1)) ∧ (∃ q : Nat, k + 1 = q ∧ 1 ≤ q ∧ k + 1 ≤ X i 27 ∧ ah = unA (rP X i) a.toNat ∧ zOr (z) (0) = bS (fUn (rP X i) (sdf X i) a.toNat) q) ∧ (((X i 27 - (k + 1)).toNat) < ((X i 27 - (k)).toNat)))) ∧ (((mHas (ah) (mPar X i (k))) = true) → ((rI (k + 1)) ∧ (∃ q : Nat, k + 1 = q ∧ 1 ≤ q ∧ k + 1 ≤ X i 27 ∧ ah = unA (rP X i) a.toNat ∧ zOr (z) (zShl (1) (k)) = bS (fUn (rP X i) (sdf X i) a.toNat) q) ∧ (((X i 27 - (k + 1)).toNat) < ((X i 27 - (k)).toNat)))))))))))))))))) ∧ ((¬ (¬ a = 0)) → ((∃ q : Nat, (1 : Int) = q ∧ 1 ≤ q ∧ (1 : Int) ≤ X i 27 ∧ zAnd (zAnd (rWy X i (a).toNat) (zXor (zShl (1) (a)) ((-1)))) (0) = unA (rP X i) a.toNat ∧ (0 : Int) = bS (fUn (rP X i) (sdf X i) a.toNat) q) ∧ (∀ (z : Int) (k : Int) (ah : Int), rI z → rI k → rI ah → (∃ q : Nat, k = q ∧ 1 ≤ q ∧ k ≤ X i 27 ∧ ah = unA (rP X i) a.toNat ∧ z = bS (fUn (rP X i) (sdf X i) a.toNat) q) → ((((X (i) 27) ≤ k) → (z = bS (fUn (rP X i) (sdf X i) (a).toNat) (X i 27).toNat)) ∧ ((¬ ((X (i) 27) ≤ k)) → ((((mHas (X (i) 35) (k)) = false) → ((rI (k + 1)) ∧ (∃ q : Nat, k + 1 = q ∧ 1 ≤ q ∧ k + 1 ≤ X i 27 ∧ ah = unA (rP X i) a.toNat ∧ zOr (z) (0) = bS (fUn (rP X i) (sdf X i) a.toNat) q) ∧ (((X i 27 - (k + 1)).toNat) < ((X i 27 - (k)).toNat)))) ∧ (((mHas (X (i) 35) (k)) = true) → ((((mHas (rWy X i (a).toNat) (k)) = true) → ((rI (k + 1)) ∧ (∃ q : Nat, k + 1 = q ∧ 1 ≤ q ∧ k + 1 ≤ X i 27 ∧ ah = unA (rP X i) a.toNat ∧ zOr (z) (0) = bS (fUn (rP X i) (sdf X i) a.toNat) q) ∧ (((X i 27 - (k + 1)).toNat) < ((X i 27 - (k)).toNat)))) ∧ (((mHas (rWy X i (a).toNat) (k)) = false) → ((oC X i ∧ 0 ≤ k ∧ k ≤ 14) ∧ (rI (mPar X i (k)) → ((((mHas (ah) (mPar X i (k))) = false) → ((rI (k + 1)) ∧ (∃ q : Nat, k + 1 = q ∧ 1 ≤ q ∧ k + 1 ≤ X i 27 ∧ ah = unA (rP X i) a.toNat ∧ zOr (z) (0) = bS (fUn (rP X i) (sdf X i) a.toNat) q) ∧ (((X i 27 - (k + 1)).toNat) < ((X i 27 - (k)).toNat)))) ∧ (((mHas (ah) (mPar X i (k))) = true) → ((rI (k + 1)) ∧ (∃ q : Nat, k + 1 = q ∧ 1 ≤ q ∧ k + 1 ≤ X i 27 ∧ ah = unA (rP X i) a.toNat ∧ zOr (z) (zShl (1) (k)) = bS (fUn (rP X i) (sdf X i) a.toNat) q) ∧ (((X i 27 - (k + 1)).toNat) < ((X i 27 - (k)).toNat))))))))))))))))))
set_option maxHeartbeats 4000000 in
set_option maxRecDepth 100000 in
theorem w_X11_uncles {l : Launch} {D : va_G} {cy : Nat → ClassId} {bs N : Nat} {sa : Nat → Nat} {kd len : Nat → Nat} {X Y : Nat → Int → Int} {R : Nat → Int → Option Nat} {i : Nat} (hM : zM N kd len R i) (a : Int) (ha : rI a) (hF : F_X11_uncles i X Y R a) : Met l yX11_uncles (.code yX11_uncles cX11_uncles 6 (some .int) :: zTB) (zRm 3 66) (zPc D cy bs sa N kd len X Y R [.ref (bs + (i)), .int (zI (a))]) (zQi D cy bs N kd len (fun r st => r = bS (fUn (rP X i) (sdf X i) (a).toNat) (X i 27).toNat ∧ st = (X, Y, R))) 0 0 (zA bs) := by
  refine zstart (by decide) (Nat.le_of_ble_eq_true rfl) ?_
  intro p e s m args below meth c ls C hE hH hr hlk hnm hl hargs
  have hF := hF hH.2.2.1 hH.2.2.2
  have hS : va_S (zA bs) s.heap s.heap [] := va_S.rf
  have hl : lv_has ls 6 [(0, .ref (bs + (i))), (1, .int (zI (a)))] := hl
  refine lv_aload_n C.1 C.2.1 dX11_uncles_0 rfl (lv_at hl 0 rfl) ?_
  refine lv_iload_n C.1 C.2.1 dX11_uncles_1 rfl (lv_at hl 1 rfl) ?_
  obtain ⟨o1, hF⟩ := hF
  refine zgoi (zrunV (As := [.int (zI (a))]) (rest := []) C hE hH hS hl.1 (c_X11_wayTo (l := l) hM (a) ha o1) k_RX11_382 ⟨Nat.le_of_ble_eq_true rfl, Nat.le_of_ble_eq_true rfl⟩ (zM_n0 hM) (zM_k0 hM) rfl rfl rfl (Nat.le_of_ble_eq_true rfl) dX11_uncles_2 ⟨Nat.zero_le _, Nat.zero_le _⟩) hS (fun rq Xq Yq Rq H locs hrq hq hH hS => ?_)
  obtain ⟨h91, h92⟩ := hq
  have h93 : Xq = X := congrArg (fun z => z.1) h92
  have h94 : Yq = Y := congrArg (fun z => z.2.1) h92
  have h95 : Rq = R := congrArg (fun z => z.2.2) h92
  rw [h93, h94, h95] at hH
  subst h91
  have hr2 := hrq
  have hF := hF hr2
  refine lv_istore_n (lv' := [(2, .int (zI (rWy X i (a).toNat))), (0, .ref (bs + (i))), (1, .int (zI (a)))]) C.1 C.2.1 dX11_uncles_5 rfl hl (by decide) rfl (fun ls hl => ?_)
  refine lv_iload_n C.1 C.2.1 dX11_uncles_6 rfl (lv_at hl 0 rfl) ?_
  refine zd_iconst C dX11_uncles_7 ?_
  refine lv_iload_n C.1 C.2.1 dX11_uncles_8 rfl (lv_at hl 2 rfl) ?_
  refine zd_ishl C dX11_uncles_9 ?_
  refine zd_iconst C dX11_uncles_10 ?_
  refine zd_ixor C dX11_uncles_11 ?_
  refine zd_iand C dX11_uncles_12 ?_
  refine lv_istore_n (lv' := [(3, .int (zI (zAnd (rWy X i (a).toNat) (zXor (zShl (1) (a)) ((-1)))))), (2, .int (zI (rWy X i (a).toNat))), (0, .ref (bs + (i))), (1, .int (zI (a)))]) C.1 C.2.1 dX11_uncles_13 rfl hl (by decide) rfl (fun ls hl => ?_)
  refine lv_iload_n C.1 C.2.1 dX11_uncles_14 rfl (lv_at hl 0 rfl) ?_
  refine lv_iload_n C.1 C.2.1 dX11_uncles_15 rfl (lv_at hl 3 rfl) ?_
  refine zd_if_ne C ha 23 dX11_uncles_16 (by decide) (fun c3 => ?_) (fun c3 => ?_)
  · have hF := hF.1 c3
    refine zd_iconst C dX11_uncles_23 ?_
    refine lv_aload_n C.1 C.2.1 dX11_uncles_24 rfl (lv_at hl 2 rfl) ?_
    refine lv_iload_n C.1 C.2.1 dX11_uncles_25 rfl (lv_at hl 3 rfl) ?_
    obtain ⟨o4, hF⟩ := hF
    refine zgoi (zrunV (As := [.int (zI (a))]) (rest := [.int (zI (1)), .int (zI (zAnd (rWy X i (a).toNat) (zXor (zShl (1) (a)) ((-1)))))]) C hE hH hS hl.1 (c_X11_parentOf (l := l) hM (a) ha o4) k_RX11_264 ⟨Nat.le_of_ble_eq_true rfl, Nat.le_of_ble_eq_true rfl⟩ (zM_n0 hM) (zM_k0 hM) rfl rfl rfl (Nat.le_of_ble_eq_true rfl) dX11_uncles_26 ⟨Nat.zero_le _, Nat.zero_le _⟩) hS (fun rq Xq Yq Rq H locs hrq hq hH hS => ?_)
    obtain ⟨h91, h92⟩ := hq
    have h93 : Xq = X := congrArg (fun z => z.1) h92
    have h94 : Yq = Y := congrArg (fun z => z.2.1) h92
    have h95 : Rq = R := congrArg (fun z => z.2.2) h92
    rw [h93, h94, h95] at hH
    subst h91
    have hr5 := hrq
    have hF := hF hr5
    refine zd_ishl C dX11_uncles_29 ?_
    refine zd_iconst C dX11_uncles_30 ?_
    refine zd_ixor C dX11_uncles_31 ?_
    refine zd_iand C dX11_uncles_32 ?_
    refine lv_istore_n (lv' := [(3, .int (zI (zAnd (zAnd (rWy X i (a).toNat) (zXor (zShl (1) (a)) ((-1)))) (zXor (zShl (1) (mPar X i (a))) ((-1)))))), (2, .int (zI (rWy X i (a).toNat))), (0, .ref (bs + (i))), (1, .int (zI (a)))]) C.1 C.2.1 dX11_uncles_33 rfl hl (by decide) rfl (fun ls hl => ?_)
    refine zd_iconst C dX11_uncles_34 ?_
    refine lv_istore (lv' := [(4, .int (zI (0))), (3, .int (zI (zAnd (zAnd (rWy X i (a).toNat) (zXor (zShl (1) (a)) ((-1)))) (zXor (zShl (1) (mPar X i (a))) ((-1)))))), (2, .int (zI (rWy X i (a).toNat))), (0, .ref (bs + (i))), (1, .int (zI (a)))]) C.1 C.2.1 dX11_uncles_35 hl (by decide) rfl (fun ls hl => ?_)
    refine zd_iconst C dX11_uncles_37 ?_
    refine lv_istore (lv' := [(5, .int (zI (1))), (4, .int (zI (0))), (3, .int (zI (zAnd (zAnd (rWy X i (a).toNat) (zXor (zShl (1) (a)) ((-1)))) (zXor (zShl (1) (mPar X i (a))) ((-1)))))), (2, .int (zI (rWy X i (a).toNat))), (0, .ref (bs + (i))), (1, .int (zI (a)))]) C.1 C.2.1 dX11_uncles_38 hl (by decide) rfl (fun ls hl => ?_)
    obtain ⟨hI6, hF⟩ := hF
    have L6 : ∀ (fu : Nat) (z : Int) (k : Int) (ah : Int), rI z → rI k → rI ah → (∃ q : Nat, k = q ∧ 1 ≤ q ∧ k ≤ X i 27 ∧ ah = unA (rP X i) a.toNat ∧ z = bS (fUn (rP X i) (sdf X i) a.toNat) q) → ((X i 27 - (k)).toNat) < fu → ∀ (H : Heap) (locs : List Loc) (ls : Array Slot), zH D cy bs N kd len X Y R H → va_S (zA bs) s.heap H locs → lv_has ls 6 [(4, .int (zI (z))), (5, .int (zI (k))), (3, .int (zI (ah))), (2, .int (zI (rWy X i (a).toNat))), (0, .ref (bs + (i))), (1, .int (zI (a)))] → W p l e (zRm 3 66) s m args below meth c H locs 0 0 (MQ below (zQi D cy bs N kd len (fun r st => r = bS (fUn (rP X i) (sdf X i) (a).toNat) (X i 27).toNat ∧ st = (X, Y, R))) args s 0 0 (zA bs)) (F0 m 40 ls []) := by
      intro fu
      induction fu with
      | zero => intro z k ah _ _ _ _ hmu; exact absurd hmu (Nat.not_lt_zero _)
      | succ fu ih6 =>
        intro z k ah hz hk hah hI hmu6 H locs ls hH hS hl
        have hF := hF z k ah hz hk hah  hI
        refine lv_iload C.1 C.2.1 dX11_uncles_40 (lv_at hl 1 rfl) ?_
        refine lv_aload_n C.1 C.2.1 dX11_uncles_42 rfl (lv_at hl 4 rfl) ?_
        refine zg11_27 C hH (zM_n0 hM) (zM_k0 hM) q_1314 dX11_uncles_43 ?_
        refine zd_icmp_ge C hk (hH.2.2.1 _ _) 102 dX11_uncles_46 (by decide) (fun c7 => ?_) (fun c7 => ?_)
        · have hF := hF.1 c7
          refine lv_iload C.1 C.2.1 dX11_uncles_102 (lv_at hl 0 rfl) ?_
          exact zd_iret C hr hlk hH hS hz (⟨hF, rfl⟩) dX11_uncles_104
        · have hF := hF.2 c7
          refine lv_iload C.1 C.2.1 dX11_uncles_49 (lv_at hl 0 rfl) ?_
          refine lv_aload_n C.1 C.2.1 dX11_uncles_51 rfl (lv_at hl 4 rfl) ?_
          refine zg11_35 C hH (zM_n0 hM) (zM_k0 hM) q_1322 dX11_uncles_52 ?_
          refine lv_iload C.1 C.2.1 dX11_uncles_55 (lv_at hl 1 rfl) ?_
          refine zgoi (zrunS (As := [.int (zI (X (i) 35)), .int (zI (k))]) (rest := [.int (zI (z))]) C hE hH hS hl.1 (c_X11_has (l := l)  (X (i) 35) (hH.2.2.1 _ _) (k) hk) k_RX11_92 ⟨Nat.le_of_ble_eq_true rfl, Nat.le_of_ble_eq_true rfl⟩ rfl (Nat.le_of_ble_eq_true rfl) dX11_uncles_57 ⟨Nat.zero_le _, Nat.zero_le _⟩) hS (fun rq Xq Yq Rq H locs hrq hq hH hS => ?_)
          obtain ⟨h91, h92⟩ := hq
          have h93 : Xq = X := congrArg (fun z => z.1) h92
          have h94 : Yq = Y := congrArg (fun z => z.2.1) h92
          have h95 : Rq = R := congrArg (fun z => z.2.2) h92
          rw [h93, h94, h95] at hH
          subst h91
          refine zd_ifB_eq C 92 dX11_uncles_60 (by decide) (fun c8 => ?_) (fun c8 => ?_)
          · have hF := hF.1 c8
            refine zd_iconst C dX11_uncles_92 ?_
            refine zd_ior C dX11_uncles_93 ?_
            refine lv_istore (lv' := [(4, .int (zI (zOr (z) (0)))), (5, .int (zI (k))), (3, .int (zI (ah))), (2, .int (zI (rWy X i (a).toNat))), (0, .ref (bs + (i))), (1, .int (zI (a)))]) C.1 C.2.1 dX11_uncles_94 hl (by decide) rfl (fun ls hl => ?_)
            refine zd_iinc (k := 1) (lv' := [(5, .int (zI (k + 1))), (4, .int (zI (zOr (z) (0)))), (3, .int (zI (ah))), (2, .int (zI (rWy X i (a).toNat))), (0, .ref (bs + (i))), (1, .int (zI (a)))]) C hl rfl dX11_uncles_96 (by decide) rfl (fun ls hl => ?_)
            refine lv_goto (tgt := 40) C.1 C.2.1 dX11_uncles_99 (by decide) ?_
            obtain ⟨o9, hF⟩ := hF
            exact ih6 (zOr (z) (0)) (k + 1) (ah) (zI_rg _) o9 hah hF.1 (Nat.lt_of_lt_of_le hF.2 (Nat.le_of_lt_succ hmu6)) _ _ _ hH hS (lv_sub hl [1, 0, 2, 3, 4, 5] rfl)
          · have hF := hF.2 c8
            refine lv_iload_n C.1 C.2.1 dX11_uncles_63 rfl (lv_at hl 3 rfl) ?_
            refine lv_iload C.1 C.2.1 dX11_uncles_64 (lv_at hl 1 rfl) ?_
            refine zgoi (zrunS (As := [.int (zI (rWy X i (a).toNat)), .int (zI (k))]) (rest := [.int (zI (z))]) C hE hH hS hl.1 (c_X11_has (l := l)  (rWy X i (a).toNat) hr2 (k) hk) k_RX11_92 ⟨Nat.le_of_ble_eq_true rfl, Nat.le_of_ble_eq_true rfl⟩ rfl (Nat.le_of_ble_eq_true rfl) dX11_uncles_66 ⟨Nat.zero_le _, Nat.zero_le _⟩) hS (fun rq Xq Yq Rq H locs hrq hq hH hS => ?_)
            obtain ⟨h91, h92⟩ := hq
            have h93 : Xq = X := congrArg (fun z => z.1) h92
            have h94 : Yq = Y := congrArg (fun z => z.2.1) h92
            have h95 : Rq = R := congrArg (fun z => z.2.2) h92
            rw [h93, h94, h95] at hH
            subst h91
            refine zd_ifB_ne C 92 dX11_uncles_69 (by decide) (fun c10 => ?_) (fun c10 => ?_)
            · have hF := hF.1 c10
              refine zd_iconst C dX11_uncles_92 ?_
              refine zd_ior C dX11_uncles_93 ?_
              refine lv_istore (lv' := [(4, .int (zI (zOr (z) (0)))), (5, .int (zI (k))), (3, .int (zI (ah))), (2, .int (zI (rWy X i (a).toNat))), (0, .ref (bs + (i))), (1, .int (zI (a)))]) C.1 C.2.1 dX11_uncles_94 hl (by decide) rfl (fun ls hl => ?_)
              refine zd_iinc (k := 1) (lv' := [(5, .int (zI (k + 1))), (4, .int (zI (zOr (z) (0)))), (3, .int (zI (ah))), (2, .int (zI (rWy X i (a).toNat))), (0, .ref (bs + (i))), (1, .int (zI (a)))]) C hl rfl dX11_uncles_96 (by decide) rfl (fun ls hl => ?_)
              refine lv_goto (tgt := 40) C.1 C.2.1 dX11_uncles_99 (by decide) ?_
              obtain ⟨o11, hF⟩ := hF
              exact ih6 (zOr (z) (0)) (k + 1) (ah) (zI_rg _) o11 hah hF.1 (Nat.lt_of_lt_of_le hF.2 (Nat.le_of_lt_succ hmu6)) _ _ _ hH hS (lv_sub hl [1, 0, 2, 3, 4, 5] rfl)
            · have hF := hF.2 c10
              refine lv_iload_n C.1 C.2.1 dX11_uncles_72 rfl (lv_at hl 2 rfl) ?_
              refine lv_aload_n C.1 C.2.1 dX11_uncles_73 rfl (lv_at hl 4 rfl) ?_
              refine lv_iload C.1 C.2.1 dX11_uncles_74 (lv_at hl 1 rfl) ?_
              obtain ⟨o12, hF⟩ := hF
              refine zgoi (zrunV (As := [.int (zI (k))]) (rest := [.int (zI (ah)), .int (zI (z))]) C hE hH hS hl.1 (c_X11_parentOf (l := l) hM (k) hk o12) k_RX11_264 ⟨Nat.le_of_ble_eq_true rfl, Nat.le_of_ble_eq_true rfl⟩ (zM_n0 hM) (zM_k0 hM) rfl rfl rfl (Nat.le_of_ble_eq_true rfl) dX11_uncles_76 ⟨Nat.zero_le _, Nat.zero_le _⟩) hS (fun rq Xq Yq Rq H locs hrq hq hH hS => ?_)
              obtain ⟨h91, h92⟩ := hq
              have h93 : Xq = X := congrArg (fun z => z.1) h92
              have h94 : Yq = Y := congrArg (fun z => z.2.1) h92
              have h95 : Rq = R := congrArg (fun z => z.2.2) h92
              rw [h93, h94, h95] at hH
              subst h91
              have hr13 := hrq
              have hF := hF hr13
              refine zgoi (zrunS (As := [.int (zI (ah)), .int (zI (mPar X i (k)))]) (rest := [.int (zI (z))]) C hE hH hS hl.1 (c_X11_has (l := l)  (ah) hah (mPar X i (k)) hr13) k_RX11_92 ⟨Nat.le_of_ble_eq_true rfl, Nat.le_of_ble_eq_true rfl⟩ rfl (Nat.le_of_ble_eq_true rfl) dX11_uncles_79 ⟨Nat.zero_le _, Nat.zero_le _⟩) hS (fun rq Xq Yq Rq H locs hrq hq hH hS => ?_)
              obtain ⟨h91, h92⟩ := hq
              have h93 : Xq = X := congrArg (fun z => z.1) h92
              have h94 : Yq = Y := congrArg (fun z => z.2.1) h92
              have h95 : Rq = R := congrArg (fun z => z.2.2) h92
              rw [h93, h94, h95] at hH
              subst h91
              refine zd_ifB_eq C 92 dX11_uncles_82 (by decide) (fun c14 => ?_) (fun c14 => ?_)
              · have hF := hF.1 c14
                refine zd_iconst C dX11_uncles_92 ?_
                refine zd_ior C dX11_uncles_93 ?_
                refine lv_istore (lv' := [(4, .int (zI (zOr (z) (0)))), (5, .int (zI (k))), (3, .int (zI (ah))), (2, .int (zI (rWy X i (a).toNat))), (0, .ref (bs + (i))), (1, .int (zI (a)))]) C.1 C.2.1 dX11_uncles_94 hl (by decide) rfl (fun ls hl => ?_)
                refine zd_iinc (k := 1) (lv' := [(5, .int (zI (k + 1))), (4, .int (zI (zOr (z) (0)))), (3, .int (zI (ah))), (2, .int (zI (rWy X i (a).toNat))), (0, .ref (bs + (i))), (1, .int (zI (a)))]) C hl rfl dX11_uncles_96 (by decide) rfl (fun ls hl => ?_)
                refine lv_goto (tgt := 40) C.1 C.2.1 dX11_uncles_99 (by decide) ?_
                obtain ⟨o15, hF⟩ := hF
                exact ih6 (zOr (z) (0)) (k + 1) (ah) (zI_rg _) o15 hah hF.1 (Nat.lt_of_lt_of_le hF.2 (Nat.le_of_lt_succ hmu6)) _ _ _ hH hS (lv_sub hl [1, 0, 2, 3, 4, 5] rfl)
              · have hF := hF.2 c14
                refine zd_iconst C dX11_uncles_85 ?_
                refine lv_iload C.1 C.2.1 dX11_uncles_86 (lv_at hl 1 rfl) ?_
                refine zd_ishl C dX11_uncles_88 ?_
                refine lv_goto (tgt := 93) C.1 C.2.1 dX11_uncles_89 (by decide) ?_
                refine zd_ior C dX11_uncles_93 ?_
                refine lv_istore (lv' := [(4, .int (zI (zOr (z) (zShl (1) (k))))), (5, .int (zI (k))), (3, .int (zI (ah))), (2, .int (zI (rWy X i (a).toNat))), (0, .ref (bs + (i))), (1, .int (zI (a)))]) C.1 C.2.1 dX11_uncles_94 hl (by decide) rfl (fun ls hl => ?_)
                refine zd_iinc (k := 1) (lv' := [(5, .int (zI (k + 1))), (4, .int (zI (zOr (z) (zShl (1) (k))))), (3, .int (zI (ah))), (2, .int (zI (rWy X i (a).toNat))), (0, .ref (bs + (i))), (1, .int (zI (a)))]) C hl rfl dX11_uncles_96 (by decide) rfl (fun ls hl => ?_)
                refine lv_goto (tgt := 40) C.1 C.2.1 dX11_uncles_99 (by decide) ?_
                obtain ⟨o16, hF⟩ := hF
                exact ih6 (zOr (z) (zShl (1) (k))) (k + 1) (ah) (zI_rg _) o16 hah hF.1 (Nat.lt_of_lt_of_le hF.2 (Nat.le_of_lt_succ hmu6)) _ _ _ hH hS (lv_sub hl [1, 0, 2, 3, 4, 5] rfl)
    exact L6 (((X i 27 - ((1 : Int))).toNat) + 1) ((0 : Int)) ((1 : Int)) (zAnd (zAnd (rWy X i (a).toNat) (zXor (zShl (1) (a)) ((-1)))) (zXor (zShl (1) (mPar X i (a))) ((-1)))) (by decide) (by decide) (zI_rg _) hI6 (Nat.lt_succ_self _) _ _ _ hH hS (lv_sub hl [1, 0, 2, 3, 4, 5] rfl)
  · have hF := hF.2 c3
    refine zd_iconst C dX11_uncles_19 ?_
    refine lv_goto (tgt := 32) C.1 C.2.1 dX11_uncles_20 (by decide) ?_
    refine zd_iand C dX11_uncles_32 ?_
    refine lv_istore_n (lv' := [(3, .int (zI (zAnd (zAnd (rWy X i (a).toNat) (zXor (zShl (1) (a)) ((-1)))) (0)))), (2, .int (zI (rWy X i (a).toNat))), (0, .ref (bs + (i))), (1, .int (zI (a)))]) C.1 C.2.1 dX11_uncles_33 rfl hl (by decide) rfl (fun ls hl => ?_)
    refine zd_iconst C dX11_uncles_34 ?_
    refine lv_istore (lv' := [(4, .int (zI (0))), (3, .int (zI (zAnd (zAnd (rWy X i (a).toNat) (zXor (zShl (1) (a)) ((-1)))) (0)))), (2, .int (zI (rWy X i (a).toNat))), (0, .ref (bs + (i))), (1, .int (zI (a)))]) C.1 C.2.1 dX11_uncles_35 hl (by decide) rfl (fun ls hl => ?_)
    refine zd_iconst C dX11_uncles_37 ?_
    refine lv_istore (lv' := [(5, .int (zI (1))), (4, .int (zI (0))), (3, .int (zI (zAnd (zAnd (rWy X i (a).toNat) (zXor (zShl (1) (a)) ((-1)))) (0)))), (2, .int (zI (rWy X i (a).toNat))), (0, .ref (bs + (i))), (1, .int (zI (a)))]) C.1 C.2.1 dX11_uncles_38 hl (by decide) rfl (fun ls hl => ?_)
    obtain ⟨hI17, hF⟩ := hF
    have L17 : ∀ (fu : Nat) (z : Int) (k : Int) (ah : Int), rI z → rI k → rI ah → (∃ q : Nat, k = q ∧ 1 ≤ q ∧ k ≤ X i 27 ∧ ah = unA (rP X i) a.toNat ∧ z = bS (fUn (rP X i) (sdf X i) a.toNat) q) → ((X i 27 - (k)).toNat) < fu → ∀ (H : Heap) (locs : List Loc) (ls : Array Slot), zH D cy bs N kd len X Y R H → va_S (zA bs) s.heap H locs → lv_has ls 6 [(4, .int (zI (z))), (5, .int (zI (k))), (3, .int (zI (ah))), (2, .int (zI (rWy X i (a).toNat))), (0, .ref (bs + (i))), (1, .int (zI (a)))] → W p l e (zRm 3 66) s m args below meth c H locs 0 0 (MQ below (zQi D cy bs N kd len (fun r st => r = bS (fUn (rP X i) (sdf X i) (a).toNat) (X i 27).toNat ∧ st = (X, Y, R))) args s 0 0 (zA bs)) (F0 m 40 ls []) := by
      intro fu
      induction fu with
      | zero => intro z k ah _ _ _ _ hmu; exact absurd hmu (Nat.not_lt_zero _)
      | succ fu ih17 =>
        intro z k ah hz hk hah hI hmu17 H locs ls hH hS hl
        have hF := hF z k ah hz hk hah  hI
        refine lv_iload C.1 C.2.1 dX11_uncles_40 (lv_at hl 1 rfl) ?_
        refine lv_aload_n C.1 C.2.1 dX11_uncles_42 rfl (lv_at hl 4 rfl) ?_
        refine zg11_27 C hH (zM_n0 hM) (zM_k0 hM) q_1314 dX11_uncles_43 ?_
        refine zd_icmp_ge C hk (hH.2.2.1 _ _) 102 dX11_uncles_46 (by decide) (fun c18 => ?_) (fun c18 => ?_)
        · have hF := hF.1 c18
          refine lv_iload C.1 C.2.1 dX11_uncles_102 (lv_at hl 0 rfl) ?_
          exact zd_iret C hr hlk hH hS hz (⟨hF, rfl⟩) dX11_uncles_104
        · have hF := hF.2 c18
          refine lv_iload C.1 C.2.1 dX11_uncles_49 (lv_at hl 0 rfl) ?_
          refine lv_aload_n C.1 C.2.1 dX11_uncles_51 rfl (lv_at hl 4 rfl) ?_
          refine zg11_35 C hH (zM_n0 hM) (zM_k0 hM) q_1322 dX11_uncles_52 ?_
          refine lv_iload C.1 C.2.1 dX11_uncles_55 (lv_at hl 1 rfl) ?_
          refine zgoi (zrunS (As := [.int (zI (X (i) 35)), .int (zI (k))]) (rest := [.int (zI (z))]) C hE hH hS hl.1 (c_X11_has (l := l)  (X (i) 35) (hH.2.2.1 _ _) (k) hk) k_RX11_92 ⟨Nat.le_of_ble_eq_true rfl, Nat.le_of_ble_eq_true rfl⟩ rfl (Nat.le_of_ble_eq_true rfl) dX11_uncles_57 ⟨Nat.zero_le _, Nat.zero_le _⟩) hS (fun rq Xq Yq Rq H locs hrq hq hH hS => ?_)
          obtain ⟨h91, h92⟩ := hq
          have h93 : Xq = X := congrArg (fun z => z.1) h92
          have h94 : Yq = Y := congrArg (fun z => z.2.1) h92
          have h95 : Rq = R := congrArg (fun z => z.2.2) h92
          rw [h93, h94, h95] at hH
          subst h91
          refine zd_ifB_eq C 92 dX11_uncles_60 (by decide) (fun c19 => ?_) (fun c19 => ?_)
          · have hF := hF.1 c19
            refine zd_iconst C dX11_uncles_92 ?_
            refine zd_ior C dX11_uncles_93 ?_
            refine lv_istore (lv' := [(4, .int (zI (zOr (z) (0)))), (5, .int (zI (k))), (3, .int (zI (ah))), (2, .int (zI (rWy X i (a).toNat))), (0, .ref (bs + (i))), (1, .int (zI (a)))]) C.1 C.2.1 dX11_uncles_94 hl (by decide) rfl (fun ls hl => ?_)
            refine zd_iinc (k := 1) (lv' := [(5, .int (zI (k + 1))), (4, .int (zI (zOr (z) (0)))), (3, .int (zI (ah))), (2, .int (zI (rWy X i (a).toNat))), (0, .ref (bs + (i))), (1, .int (zI (a)))]) C hl rfl dX11_uncles_96 (by decide) rfl (fun ls hl => ?_)
            refine lv_goto (tgt := 40) C.1 C.2.1 dX11_uncles_99 (by decide) ?_
            obtain ⟨o20, hF⟩ := hF
            exact ih17 (zOr (z) (0)) (k + 1) (ah) (zI_rg _) o20 hah hF.1 (Nat.lt_of_lt_of_le hF.2 (Nat.le_of_lt_succ hmu17)) _ _ _ hH hS (lv_sub hl [1, 0, 2, 3, 4, 5] rfl)
          · have hF := hF.2 c19
            refine lv_iload_n C.1 C.2.1 dX11_uncles_63 rfl (lv_at hl 3 rfl) ?_
            refine lv_iload C.1 C.2.1 dX11_uncles_64 (lv_at hl 1 rfl) ?_
            refine zgoi (zrunS (As := [.int (zI (rWy X i (a).toNat)), .int (zI (k))]) (rest := [.int (zI (z))]) C hE hH hS hl.1 (c_X11_has (l := l)  (rWy X i (a).toNat) hr2 (k) hk) k_RX11_92 ⟨Nat.le_of_ble_eq_true rfl, Nat.le_of_ble_eq_true rfl⟩ rfl (Nat.le_of_ble_eq_true rfl) dX11_uncles_66 ⟨Nat.zero_le _, Nat.zero_le _⟩) hS (fun rq Xq Yq Rq H locs hrq hq hH hS => ?_)
            obtain ⟨h91, h92⟩ := hq
            have h93 : Xq = X := congrArg (fun z => z.1) h92
            have h94 : Yq = Y := congrArg (fun z => z.2.1) h92
            have h95 : Rq = R := congrArg (fun z => z.2.2) h92
            rw [h93, h94, h95] at hH
            subst h91
            refine zd_ifB_ne C 92 dX11_uncles_69 (by decide) (fun c21 => ?_) (fun c21 => ?_)
            · have hF := hF.1 c21
              refine zd_iconst C dX11_uncles_92 ?_
              refine zd_ior C dX11_uncles_93 ?_
              refine lv_istore (lv' := [(4, .int (zI (zOr (z) (0)))), (5, .int (zI (k))), (3, .int (zI (ah))), (2, .int (zI (rWy X i (a).toNat))), (0, .ref (bs + (i))), (1, .int (zI (a)))]) C.1 C.2.1 dX11_uncles_94 hl (by decide) rfl (fun ls hl => ?_)
              refine zd_iinc (k := 1) (lv' := [(5, .int (zI (k + 1))), (4, .int (zI (zOr (z) (0)))), (3, .int (zI (ah))), (2, .int (zI (rWy X i (a).toNat))), (0, .ref (bs + (i))), (1, .int (zI (a)))]) C hl rfl dX11_uncles_96 (by decide) rfl (fun ls hl => ?_)
              refine lv_goto (tgt := 40) C.1 C.2.1 dX11_uncles_99 (by decide) ?_
              obtain ⟨o22, hF⟩ := hF
              exact ih17 (zOr (z) (0)) (k + 1) (ah) (zI_rg _) o22 hah hF.1 (Nat.lt_of_lt_of_le hF.2 (Nat.le_of_lt_succ hmu17)) _ _ _ hH hS (lv_sub hl [1, 0, 2, 3, 4, 5] rfl)
            · have hF := hF.2 c21
              refine lv_iload_n C.1 C.2.1 dX11_uncles_72 rfl (lv_at hl 2 rfl) ?_
              refine lv_aload_n C.1 C.2.1 dX11_uncles_73 rfl (lv_at hl 4 rfl) ?_
              refine lv_iload C.1 C.2.1 dX11_uncles_74 (lv_at hl 1 rfl) ?_
              obtain ⟨o23, hF⟩ := hF
              refine zgoi (zrunV (As := [.int (zI (k))]) (rest := [.int (zI (ah)), .int (zI (z))]) C hE hH hS hl.1 (c_X11_parentOf (l := l) hM (k) hk o23) k_RX11_264 ⟨Nat.le_of_ble_eq_true rfl, Nat.le_of_ble_eq_true rfl⟩ (zM_n0 hM) (zM_k0 hM) rfl rfl rfl (Nat.le_of_ble_eq_true rfl) dX11_uncles_76 ⟨Nat.zero_le _, Nat.zero_le _⟩) hS (fun rq Xq Yq Rq H locs hrq hq hH hS => ?_)
              obtain ⟨h91, h92⟩ := hq
              have h93 : Xq = X := congrArg (fun z => z.1) h92
              have h94 : Yq = Y := congrArg (fun z => z.2.1) h92
              have h95 : Rq = R := congrArg (fun z => z.2.2) h92
              rw [h93, h94, h95] at hH
              subst h91
              have hr24 := hrq
              have hF := hF hr24
              refine zgoi (zrunS (As := [.int (zI (ah)), .int (zI (mPar X i (k)))]) (rest := [.int (zI (z))]) C hE hH hS hl.1 (c_X11_has (l := l)  (ah) hah (mPar X i (k)) hr24) k_RX11_92 ⟨Nat.le_of_ble_eq_true rfl, Nat.le_of_ble_eq_true rfl⟩ rfl (Nat.le_of_ble_eq_true rfl) dX11_uncles_79 ⟨Nat.zero_le _, Nat.zero_le _⟩) hS (fun rq Xq Yq Rq H locs hrq hq hH hS => ?_)
              obtain ⟨h91, h92⟩ := hq
              have h93 : Xq = X := congrArg (fun z => z.1) h92
              have h94 : Yq = Y := congrArg (fun z => z.2.1) h92
              have h95 : Rq = R := congrArg (fun z => z.2.2) h92
              rw [h93, h94, h95] at hH
              subst h91
              refine zd_ifB_eq C 92 dX11_uncles_82 (by decide) (fun c25 => ?_) (fun c25 => ?_)
              · have hF := hF.1 c25
                refine zd_iconst C dX11_uncles_92 ?_
                refine zd_ior C dX11_uncles_93 ?_
                refine lv_istore (lv' := [(4, .int (zI (zOr (z) (0)))), (5, .int (zI (k))), (3, .int (zI (ah))), (2, .int (zI (rWy X i (a).toNat))), (0, .ref (bs + (i))), (1, .int (zI (a)))]) C.1 C.2.1 dX11_uncles_94 hl (by decide) rfl (fun ls hl => ?_)
                refine zd_iinc (k := 1) (lv' := [(5, .int (zI (k + 1))), (4, .int (zI (zOr (z) (0)))), (3, .int (zI (ah))), (2, .int (zI (rWy X i (a).toNat))), (0, .ref (bs + (i))), (1, .int (zI (a)))]) C hl rfl dX11_uncles_96 (by decide) rfl (fun ls hl => ?_)
                refine lv_goto (tgt := 40) C.1 C.2.1 dX11_uncles_99 (by decide) ?_
                obtain ⟨o26, hF⟩ := hF
                exact ih17 (zOr (z) (0)) (k + 1) (ah) (zI_rg _) o26 hah hF.1 (Nat.lt_of_lt_of_le hF.2 (Nat.le_of_lt_succ hmu17)) _ _ _ hH hS (lv_sub hl [1, 0, 2, 3, 4, 5] rfl)
              · have hF := hF.2 c25
                refine zd_iconst C dX11_uncles_85 ?_
                refine lv_iload C.1 C.2.1 dX11_uncles_86 (lv_at hl 1 rfl) ?_
                refine zd_ishl C dX11_uncles_88 ?_
                refine lv_goto (tgt := 93) C.1 C.2.1 dX11_uncles_89 (by decide) ?_
                refine zd_ior C dX11_uncles_93 ?_
                refine lv_istore (lv' := [(4, .int (zI (zOr (z) (zShl (1) (k))))), (5, .int (zI (k))), (3, .int (zI (ah))), (2, .int (zI (rWy X i (a).toNat))), (0, .ref (bs + (i))), (1, .int (zI (a)))]) C.1 C.2.1 dX11_uncles_94 hl (by decide) rfl (fun ls hl => ?_)
                refine zd_iinc (k := 1) (lv' := [(5, .int (zI (k + 1))), (4, .int (zI (zOr (z) (zShl (1) (k))))), (3, .int (zI (ah))), (2, .int (zI (rWy X i (a).toNat))), (0, .ref (bs + (i))), (1, .int (zI (a)))]) C hl rfl dX11_uncles_96 (by decide) rfl (fun ls hl => ?_)
                refine lv_goto (tgt := 40) C.1 C.2.1 dX11_uncles_99 (by decide) ?_
                obtain ⟨o27, hF⟩ := hF
                exact ih17 (zOr (z) (zShl (1) (k))) (k + 1) (ah) (zI_rg _) o27 hah hF.1 (Nat.lt_of_lt_of_le hF.2 (Nat.le_of_lt_succ hmu17)) _ _ _ hH hS (lv_sub hl [1, 0, 2, 3, 4, 5] rfl)
    exact L17 (((X i 27 - ((1 : Int))).toNat) + 1) ((0 : Int)) ((1 : Int)) (zAnd (zAnd (rWy X i (a).toNat) (zXor (zShl (1) (a)) ((-1)))) (0)) (by decide) (by decide) (zI_rg _) hI17 (Nat.lt_succ_self _) _ _ _ hH hS (lv_sub hl [1, 0, 2, 3, 4, 5] rfl)
theorem v_X11_uncles {X Y : Nat → Int → Int} {R : Nat → Int → Option Nat} {i : Nat} (a : Int) (ha : rI a) (hp : oH X Y i ∧ 0 ≤ a ∧ a < X i 27) : F_X11_uncles i X Y R a := by
  unfold F_X11_uncles
  intro hX hY
  have h := hp.1
  have ha := hp.2
  have h27 := h.1.2.2.1
  have hbs := h.1.2.2.2
  have h35 := h.2.2.2.1
  have hl := h.2.2.1
  have sd : ∀ q : Nat, (q : Int) < X i 27 → mHas (X i 35) q = sdf X i q := fun q hq => by
    rw [h35]
    exact bS_has _ (by omega) (by omega)
  have ep : ∀ q : Nat, 1 ≤ q → (q : Int) < X i 27 → mPar X i q = rP X i q := fun q h1 h2 => rP_c hbs.1 h1 (by omega)
  have pb : ∀ q : Nat, 1 ≤ q → (q : Int) < X i 27 → rP X i q < q := fun q h1 h2 => rP_par hbs.1 q h1 (by omega)
  have hW := (oH_W h).2.2
  have ea : ((a.toNat : Nat) : Int) = a := by omega
  refine ⟨⟨(X i 27 - 1).toNat, hbs.1, by omega, by omega⟩, fun _ => ⟨fun c0 => ⟨⟨hbs.1.1, by omega, by omega⟩, fun _ => ⟨⟨1, rfl, by decide, by omega, ?_, rfl⟩, ?_⟩⟩, fun c0 => ⟨⟨1, rfl, by decide, by omega, ?_, rfl⟩, ?_⟩⟩⟩
  · have p := ep a.toNat (by omega) (by omega)
    rw [ea] at p
    unfold unA
    rw [if_neg (by omega), p, ea]
    rfl
  · clear c0
    intro z k ah zr kr ar hI
    obtain ⟨q, hq, q1, q2, eh, hz⟩ := hI
    subst hq
    refine ⟨fun c => by rw [hz, show (X i 27).toNat = q by omega], fun c => ?_⟩
    have nx := bS_st hz
    have o1 : decide (1 ≤ q) = true := decide_eq_true q1
    have pq := pb q q1 (by omega)
    rw [sd q (by omega), ep q q1 (by omega)]
    refine ⟨fun c1 => ⟨⟨by omega, by omega⟩, ⟨q + 1, by omega, by omega, by omega, eh, nx.1 ?_⟩, by omega⟩, fun c1 => ⟨fun c2 => ⟨⟨by omega, by omega⟩, ⟨q + 1, by omega, by omega, by omega, eh, nx.1 ?_⟩, by omega⟩, fun c2 => ⟨⟨hbs.1.1, by omega, by omega⟩, fun _ => ⟨fun c3 => ⟨⟨by omega, by omega⟩, ⟨q + 1, by omega, by omega, by omega, eh, nx.1 ?_⟩, by omega⟩, fun c3 => ⟨⟨by omega, by omega⟩, ⟨q + 1, by omega, by omega, by omega, eh, nx.2 ?_⟩, by omega⟩⟩⟩⟩⟩
    · unfold fUn
      rw [c1, Bool.false_and, Bool.and_false]
    · unfold fUn
      have c2 : mHas (wyP (rP X i) a.toNat) q = true := c2
      rw [c2, Bool.not_true, Bool.false_and, Bool.and_false, Bool.and_false]
    · unfold fUn
      rw [← eh, c3, Bool.and_false, Bool.and_false, Bool.and_false]
    · unfold fUn
      have c2 : mHas (wyP (rP X i) a.toNat) q = false := c2
      rw [← eh, o1, c1, c2, c3]
      rfl
  · unfold unA
    rw [if_pos (by omega), ea]
    rfl
  · clear c0
    intro z k ah zr kr ar hI
    obtain ⟨q, hq, q1, q2, eh, hz⟩ := hI
    subst hq
    refine ⟨fun c => by rw [hz, show (X i 27).toNat = q by omega], fun c => ?_⟩
    have nx := bS_st hz
    have o1 : decide (1 ≤ q) = true := decide_eq_true q1
    have pq := pb q q1 (by omega)
    rw [sd q (by omega), ep q q1 (by omega)]
    refine ⟨fun c1 => ⟨⟨by omega, by omega⟩, ⟨q + 1, by omega, by omega, by omega, eh, nx.1 ?_⟩, by omega⟩, fun c1 => ⟨fun c2 => ⟨⟨by omega, by omega⟩, ⟨q + 1, by omega, by omega, by omega, eh, nx.1 ?_⟩, by omega⟩, fun c2 => ⟨⟨hbs.1.1, by omega, by omega⟩, fun _ => ⟨fun c3 => ⟨⟨by omega, by omega⟩, ⟨q + 1, by omega, by omega, by omega, eh, nx.1 ?_⟩, by omega⟩, fun c3 => ⟨⟨by omega, by omega⟩, ⟨q + 1, by omega, by omega, by omega, eh, nx.2 ?_⟩, by omega⟩⟩⟩⟩⟩
    · unfold fUn
      rw [c1, Bool.false_and, Bool.and_false]
    · unfold fUn
      have c2 : mHas (wyP (rP X i) a.toNat) q = true := c2
      rw [c2, Bool.not_true, Bool.false_and, Bool.and_false, Bool.and_false]
    · unfold fUn
      rw [← eh, c3, Bool.and_false, Bool.and_false, Bool.and_false]
    · unfold fUn
      have c2 : mHas (wyP (rP X i) a.toNat) q = false := c2
      rw [← eh, o1, c1, c2, c3]
      rfl
theorem c_X11_uncles {l : Launch} {D : va_G} {cy : Nat → ClassId} {bs N : Nat} {sa : Nat → Nat} {kd len : Nat → Nat} {X Y : Nat → Int → Int} {R : Nat → Int → Option Nat} {i : Nat} (hM : zM N kd len R i) (a : Int) (ha : rI a) (hp : oH X Y i ∧ 0 ≤ a ∧ a < X i 27) : Met l yX11_uncles (.code yX11_uncles cX11_uncles 6 (some .int) :: zTB) (zRm 3 66) (zPc D cy bs sa N kd len X Y R [.ref (bs + (i)), .int (zI (a))]) (zQi D cy bs N kd len (fun r st => r = bS (fUn (rP X i) (sdf X i) (a).toNat) (X i 27).toNat ∧ st = (X, Y, R))) 0 0 (zA bs) := w_X11_uncles hM a ha (v_X11_uncles a ha hp)
