/-! HOW DIFFICULT THE BLOCKS OF A CHART ARE -/
theorem aN_no {P : Nat → Nat} {k m : Nat} (h : aN P k m = -1) : ∀ n, aN P k (m + n) = -1
  | 0 => h
  | n + 1 => by
    show (if aN P k (m + n) ≤ 0 then (-1 : Int) else _) = -1
    rw [if_pos (by rw [aN_no h n]; decide)]
def trE (X Y : Nat → Int → Int) (R : Nat → Int → Option Nat) (i : Nat) (a b : Int) : Int := sStep (Y (i + 12) a) (X (cn R i) 1) (if b = -1 then 0 else X (cb R i + 2) a - X (cb R i + 2) b)
def wR (Z : Nat → Int → Int) (q : Nat) (Y : Nat → Int → Int) (i : Nat) (n : Int) : Prop := ∀ k : Nat, (k : Int) < n → Y (i + 12) k = rW Z q k ∧ Y (i + 13) k = rG Z q k
abbrev cX1_ahead : ByteArray := prog_3_method_5_code
def yX1_ahead : MethodName := ⟨RX1, "ahead", "(II)I"⟩
theorem dX1_ahead_0 : decode cX1_ahead 0 = .ok (.iload_n 1, 1) := by decide +kernel
theorem dX1_ahead_1 : decode cX1_ahead 1 = .ok (.istore_n 3, 1) := by decide +kernel
theorem dX1_ahead_2 : decode cX1_ahead 2 = .ok (.iconst 0, 1) := by decide +kernel
theorem dX1_ahead_3 : decode cX1_ahead 3 = .ok (.istore 4, 2) := by decide +kernel
theorem dX1_ahead_5 : decode cX1_ahead 5 = .ok (.iload 4, 2) := by decide +kernel
theorem dX1_ahead_7 : decode cX1_ahead 7 = .ok (.iload_n 2, 1) := by decide +kernel
theorem dX1_ahead_8 : decode cX1_ahead 8 = .ok (.if_icmp .ge 22, 3) := by decide +kernel
theorem dX1_ahead_11 : decode cX1_ahead 11 = .ok (.iload_n 3, 1) := by decide +kernel
theorem dX1_ahead_12 : decode cX1_ahead 12 = .ok (.ifCond .gt 5, 3) := by decide +kernel
theorem dX1_ahead_15 : decode cX1_ahead 15 = .ok (.iconst (-1), 1) := by decide +kernel
theorem dX1_ahead_16 : decode cX1_ahead 16 = .ok (.ireturn, 1) := by decide +kernel
theorem dX1_ahead_17 : decode cX1_ahead 17 = .ok (.aload_n 0, 1) := by decide +kernel
theorem dX1_ahead_18 : decode cX1_ahead 18 = .ok (.getfield 25, 3) := by decide +kernel
theorem dX1_ahead_21 : decode cX1_ahead 21 = .ok (.iload_n 3, 1) := by decide +kernel
theorem dX1_ahead_22 : decode cX1_ahead 22 = .ok (.iaload, 1) := by decide +kernel
theorem dX1_ahead_23 : decode cX1_ahead 23 = .ok (.istore_n 3, 1) := by decide +kernel
theorem dX1_ahead_24 : decode cX1_ahead 24 = .ok (.iinc 4 1, 3) := by decide +kernel
theorem dX1_ahead_27 : decode cX1_ahead 27 = .ok (.goto (-22), 3) := by decide +kernel
theorem dX1_ahead_30 : decode cX1_ahead 30 = .ok (.iload_n 3, 1) := by decide +kernel
theorem dX1_ahead_31 : decode cX1_ahead 31 = .ok (.ireturn, 1) := by decide +kernel
def F_X1_ahead (i : Nat) (Z : Nat → Int → Int) (q : Nat) (X Y : Nat → Int → Int) (R : Nat → Int → Option Nat) (a : Int) (b : Int) : Prop := (∀ i j, rI (X i j)) → (∀ i j, rL (Y i j)) → ((0 ≤ (0 : Int) ∧ ((0 : Int) ≤ b ∨ (0 : Int) = 0)) ∧ (0 ≤ a ∧ a < Z q 27) ∧ a = aN (rP Z q) a.toNat ((0 : Int)).toNat) ∧ (∀ (u : Int) (v : Int), rI u → rI v → ((0 ≤ v ∧ (v ≤ b ∨ v = 0)) ∧ (0 ≤ u ∧ u < Z q 27) ∧ u = aN (rP Z q) a.toNat (v).toNat) → (((b ≤ v) → (u = aN (rP Z q) (a).toNat (b).toNat)) ∧ ((¬ (b ≤ v)) → (((0 < u) → ((0 ≤ u ∧ u < 15) ∧ ((rI (v + 1)) ∧ ((0 ≤ (v + 1) ∧ ((v + 1) ≤ b ∨ (v + 1) = 0)) ∧ (0 ≤ (X (i + 9) (u)) ∧ (X (i + 9) (u)) < Z q 27) ∧ (X (i + 9) (u)) = aN (rP Z q) a.toNat ((v + 1)).toNat) ∧ (((b - (v + 1)).toNat) < ((b - (v)).toNat))))) ∧ ((¬ (0 < u)) → ((-1) = aN (rP Z q) (a).toNat (b).toNat))))))
set_option maxHeartbeats 4000000 in
set_option maxRecDepth 100000 in
theorem w_X1_ahead {l : Launch} {D : va_G} {cy : Nat → ClassId} {bs N : Nat} {sa : Nat → Nat} {kd len : Nat → Nat} {X Y : Nat → Int → Int} {R : Nat → Int → Option Nat} {i : Nat} {Z : Nat → Int → Int} {q : Nat} (hC : zChart N kd len R i) (a : Int) (ha : rI a) (b : Int) (hb : rI b) (hF : F_X1_ahead i Z q X Y R a b) : Met l yX1_ahead (.code yX1_ahead cX1_ahead 5 (some .int) :: zTB) (zRm 0 0) (zPc D cy bs sa N kd len X Y R [.ref (bs + (i)), .int (zI (a)), .int (zI (b))]) (zQi D cy bs N kd len (fun r st => r = aN (rP Z q) (a).toNat (b).toNat ∧ st = (X, Y, R))) 0 0 (zA bs) := by
  refine zstart (by decide) (Nat.le_of_ble_eq_true rfl) ?_
  intro p e s m args below meth c ls C hE hH hr hlk hnm hl hargs
  have hF := hF hH.2.2.1 hH.2.2.2
  have hS : va_S (zA bs) s.heap s.heap [] := va_S.rf
  have hl : lv_has ls 5 [(0, .ref (bs + (i))), (1, .int (zI (a))), (2, .int (zI (b)))] := hl
  refine lv_iload_n C.1 C.2.1 dX1_ahead_0 rfl (lv_at hl 1 rfl) ?_
  refine lv_istore_n (lv' := [(3, .int (zI (a))), (0, .ref (bs + (i))), (1, .int (zI (a))), (2, .int (zI (b)))]) C.1 C.2.1 dX1_ahead_1 rfl hl (by decide) rfl (fun ls hl => ?_)
  refine zd_iconst C dX1_ahead_2 ?_
  refine lv_istore (lv' := [(4, .int (zI (0))), (3, .int (zI (a))), (0, .ref (bs + (i))), (1, .int (zI (a))), (2, .int (zI (b)))]) C.1 C.2.1 dX1_ahead_3 hl (by decide) rfl (fun ls hl => ?_)
  obtain ⟨hI1, hF⟩ := hF
  have L1 : ∀ (fu : Nat) (u : Int) (v : Int), rI u → rI v → ((0 ≤ v ∧ (v ≤ b ∨ v = 0)) ∧ (0 ≤ u ∧ u < Z q 27) ∧ u = aN (rP Z q) a.toNat (v).toNat) → ((b - (v)).toNat) < fu → ∀ (H : Heap) (locs : List Loc) (ls : Array Slot), zH D cy bs N kd len X Y R H → va_S (zA bs) s.heap H locs → lv_has ls 5 [(3, .int (zI (u))), (4, .int (zI (v))), (0, .ref (bs + (i))), (2, .int (zI (b)))] → W p l e (zRm 0 0) s m args below meth c H locs 0 0 (MQ below (zQi D cy bs N kd len (fun r st => r = aN (rP Z q) (a).toNat (b).toNat ∧ st = (X, Y, R))) args s 0 0 (zA bs)) (F0 m 5 ls []) := by
    intro fu
    induction fu with
    | zero => intro u v _ _ _ hmu; exact absurd hmu (Nat.not_lt_zero _)
    | succ fu ih1 =>
      intro u v hu hv hI hmu1 H locs ls hH hS hl
      have hF := hF u v hu hv  hI
      refine lv_iload C.1 C.2.1 dX1_ahead_5 (lv_at hl 1 rfl) ?_
      refine lv_iload_n C.1 C.2.1 dX1_ahead_7 rfl (lv_at hl 3 rfl) ?_
      refine zd_icmp_ge C hv hb 30 dX1_ahead_8 (by decide) (fun c2 => ?_) (fun c2 => ?_)
      · have hF := hF.1 c2
        refine lv_iload_n C.1 C.2.1 dX1_ahead_30 rfl (lv_at hl 0 rfl) ?_
        exact zd_iret C hr hlk hH hS hu (⟨hF, rfl⟩) dX1_ahead_31
      · have hF := hF.2 c2
        refine lv_iload_n C.1 C.2.1 dX1_ahead_11 rfl (lv_at hl 0 rfl) ?_
        refine zd_if_gt C hu 17 dX1_ahead_12 (by decide) (fun c3 => ?_) (fun c3 => ?_)
        · have hF := hF.1 c3
          refine lv_aload_n C.1 C.2.1 dX1_ahead_17 rfl (lv_at hl 2 rfl) ?_
          refine zg1_4 C hH (zChart_n0 hC) (zChart_k0 hC) q_402 (zChart_r9 hC) dX1_ahead_18 ?_
          refine lv_iload_n C.1 C.2.1 dX1_ahead_21 rfl (lv_at hl 0 rfl) ?_
          obtain ⟨o4, hF⟩ := hF
          refine zd_iald C hH (zChart_n9 hC) (zChart_k9 hC) o4.1 (by rw [zChart_l9 hC]; exact o4.2) (by rw [zChart_l9 hC]; decide) dX1_ahead_22 ?_
          refine lv_istore_n (lv' := [(3, .int (zI (X (i + 9) (u)))), (4, .int (zI (v))), (0, .ref (bs + (i))), (2, .int (zI (b)))]) C.1 C.2.1 dX1_ahead_23 rfl hl (by decide) rfl (fun ls hl => ?_)
          refine zd_iinc (k := 1) (lv' := [(4, .int (zI (v + 1))), (3, .int (zI (X (i + 9) (u)))), (0, .ref (bs + (i))), (2, .int (zI (b)))]) C hl rfl dX1_ahead_24 (by decide) rfl (fun ls hl => ?_)
          refine lv_goto (tgt := 5) C.1 C.2.1 dX1_ahead_27 (by decide) ?_
          obtain ⟨o5, hF⟩ := hF
          exact ih1 (X (i + 9) (u)) (v + 1) (hH.2.2.1 _ _) o5 hF.1 (Nat.lt_of_lt_of_le hF.2 (Nat.le_of_lt_succ hmu1)) _ _ _ hH hS (lv_sub hl [1, 0, 2, 3] rfl)
        · have hF := hF.2 c3
          refine zd_iconst C dX1_ahead_15 ?_
          exact zd_iret C hr hlk hH hS (by decide) (⟨hF, rfl⟩) dX1_ahead_16
  exact L1 (((b - ((0 : Int))).toNat) + 1) (a) ((0 : Int)) ha (by decide) hI1 (Nat.lt_succ_self _) _ _ _ hH hS (lv_sub hl [1, 0, 2, 4] rfl)
theorem v_X1_ahead {X Y : Nat → Int → Int} {R : Nat → Int → Option Nat} {i : Nat} {Z : Nat → Int → Int} {q : Nat} (a : Int) (ha : rI a) (b : Int) (hb : rI b) (hp : dR Z q X R i ∧ 0 ≤ a ∧ a < Z q 27) : F_X1_ahead i Z q X Y R a b := by
  unfold F_X1_ahead
  intro hX hY
  obtain ⟨hd, a0, a1⟩ := hp
  have hv := hd.1.1
  obtain ⟨e27, n1, n15⟩ := vZ_n hv
  refine ⟨?_, ?_⟩
  · exact ⟨by omega, by omega, by show a = ((a.toNat : Nat) : Int); omega⟩
  intro u v
  intro _
  intro _
  intro h1
  obtain ⟨⟨v0, v1⟩, ⟨u0, u1⟩, ue⟩ := h1
  have es : (v + 1).toNat = v.toNat + 1 := by omega
  refine ⟨?_, ?_⟩
  · intro c1
    rw [ue, show b.toNat = v.toNat by omega]
  intro c2
  refine ⟨?_, ?_⟩
  · intro c3
    obtain ⟨un, rfl⟩ := nat_of u0
    have hpk := vZ_P hv (show 1 ≤ un by omega) u1
    have hx := (hd.2.2.2 un u1).1 (by omega)
    refine ⟨?_, ?_⟩
    · first | omega | exact ⟨by omega, by omega⟩ | decide | assumption | exact ⟨by omega, by omega, by omega⟩ | exact ⟨by decide, by decide⟩
    refine ⟨?_, ?_⟩
    · first | omega | exact ⟨by omega, by omega⟩ | decide | assumption | exact ⟨by omega, by omega, by omega⟩ | exact ⟨by decide, by decide⟩
    refine ⟨?_, ?_⟩
    · refine ⟨by omega, by rw [hx]; omega, ?_⟩
      rw [es]
      show _ = if aN (rP Z q) a.toNat v.toNat ≤ 0 then (-1 : Int) else _
      rw [if_neg (by omega), ← ue]
      exact hx
    first | omega | exact ⟨by omega, by omega⟩ | decide | assumption | exact ⟨by omega, by omega, by omega⟩ | exact ⟨by decide, by decide⟩
  intro c4
  have e2 : aN (rP Z q) a.toNat (v.toNat + 1) = -1 := by
    show (if aN (rP Z q) a.toNat v.toNat ≤ 0 then (-1 : Int) else _) = -1
    rw [if_pos (by omega)]
  have e3 := aN_no e2 (b.toNat - (v.toNat + 1))
  rw [show v.toNat + 1 + (b.toNat - (v.toNat + 1)) = b.toNat by omega] at e3
  exact e3.symm
theorem c_X1_ahead {l : Launch} {D : va_G} {cy : Nat → ClassId} {bs N : Nat} {sa : Nat → Nat} {kd len : Nat → Nat} {X Y : Nat → Int → Int} {R : Nat → Int → Option Nat} {i : Nat} {Z : Nat → Int → Int} {q : Nat} (hC : zChart N kd len R i) (a : Int) (ha : rI a) (b : Int) (hb : rI b) (hp : dR Z q X R i ∧ 0 ≤ a ∧ a < Z q 27) : Met l yX1_ahead (.code yX1_ahead cX1_ahead 5 (some .int) :: zTB) (zRm 0 0) (zPc D cy bs sa N kd len X Y R [.ref (bs + (i)), .int (zI (a)), .int (zI (b))]) (zQi D cy bs N kd len (fun r st => r = aN (rP Z q) (a).toNat (b).toNat ∧ st = (X, Y, R))) 0 0 (zA bs) := w_X1_ahead hC a ha b hb (v_X1_ahead a ha b hb hp)
abbrev cX1_turned : ByteArray := prog_3_method_4_code
def yX1_turned : MethodName := ⟨RX1, "turned", "(II)J"⟩
theorem dX1_turned_0 : decode cX1_turned 0 = .ok (.iload_n 2, 1) := by decide +kernel
theorem dX1_turned_1 : decode cX1_turned 1 = .ok (.iconst (-1), 1) := by decide +kernel
theorem dX1_turned_2 : decode cX1_turned 2 = .ok (.if_icmp .ne 7, 3) := by decide +kernel
theorem dX1_turned_5 : decode cX1_turned 5 = .ok (.iconst 0, 1) := by decide +kernel
theorem dX1_turned_6 : decode cX1_turned 6 = .ok (.goto 22, 3) := by decide +kernel
theorem dX1_turned_9 : decode cX1_turned 9 = .ok (.aload_n 0, 1) := by decide +kernel
theorem dX1_turned_10 : decode cX1_turned 10 = .ok (.getfield 21, 3) := by decide +kernel
theorem dX1_turned_13 : decode cX1_turned 13 = .ok (.getfield 83, 3) := by decide +kernel
theorem dX1_turned_16 : decode cX1_turned 16 = .ok (.iload_n 1, 1) := by decide +kernel
theorem dX1_turned_17 : decode cX1_turned 17 = .ok (.iaload, 1) := by decide +kernel
theorem dX1_turned_18 : decode cX1_turned 18 = .ok (.aload_n 0, 1) := by decide +kernel
theorem dX1_turned_19 : decode cX1_turned 19 = .ok (.getfield 21, 3) := by decide +kernel
theorem dX1_turned_22 : decode cX1_turned 22 = .ok (.getfield 83, 3) := by decide +kernel
theorem dX1_turned_25 : decode cX1_turned 25 = .ok (.iload_n 2, 1) := by decide +kernel
theorem dX1_turned_26 : decode cX1_turned 26 = .ok (.iaload, 1) := by decide +kernel
theorem dX1_turned_27 : decode cX1_turned 27 = .ok (.isub, 1) := by decide +kernel
theorem dX1_turned_28 : decode cX1_turned 28 = .ok (.istore_n 3, 1) := by decide +kernel
theorem dX1_turned_29 : decode cX1_turned 29 = .ok (.aload_n 0, 1) := by decide +kernel
theorem dX1_turned_30 : decode cX1_turned 30 = .ok (.getfield 35, 3) := by decide +kernel
theorem dX1_turned_33 : decode cX1_turned 33 = .ok (.iload_n 1, 1) := by decide +kernel
theorem dX1_turned_34 : decode cX1_turned 34 = .ok (.laload, 1) := by decide +kernel
theorem dX1_turned_35 : decode cX1_turned 35 = .ok (.aload_n 0, 1) := by decide +kernel
theorem dX1_turned_36 : decode cX1_turned 36 = .ok (.getfield 12, 3) := by decide +kernel
theorem dX1_turned_39 : decode cX1_turned 39 = .ok (.getfield 86, 3) := by decide +kernel
theorem dX1_turned_42 : decode cX1_turned 42 = .ok (.i2l, 1) := by decide +kernel
theorem dX1_turned_43 : decode cX1_turned 43 = .ok (.lmul, 1) := by decide +kernel
theorem dX1_turned_44 : decode cX1_turned 44 = .ok (.iconst 1, 1) := by decide +kernel
theorem dX1_turned_45 : decode cX1_turned 45 = .ok (.iload_n 3, 1) := by decide +kernel
theorem dX1_turned_46 : decode cX1_turned 46 = .ok (.invokestatic 65, 3) := by decide +kernel
theorem dX1_turned_49 : decode cX1_turned 49 = .ok (.i2l, 1) := by decide +kernel
theorem dX1_turned_50 : decode cX1_turned 50 = .ok (.ldiv, 1) := by decide +kernel
theorem dX1_turned_51 : decode cX1_turned 51 = .ok (.lstore 4, 2) := by decide +kernel
theorem dX1_turned_53 : decode cX1_turned 53 = .ok (.lconst 1, 1) := by decide +kernel
theorem dX1_turned_54 : decode cX1_turned 54 = .ok (.aload_n 0, 1) := by decide +kernel
theorem dX1_turned_55 : decode cX1_turned 55 = .ok (.getfield 35, 3) := by decide +kernel
theorem dX1_turned_58 : decode cX1_turned 58 = .ok (.iload_n 1, 1) := by decide +kernel
theorem dX1_turned_59 : decode cX1_turned 59 = .ok (.laload, 1) := by decide +kernel
theorem dX1_turned_60 : decode cX1_turned 60 = .ok (.ldc2_w 89, 3) := by decide +kernel
theorem dX1_turned_63 : decode cX1_turned 63 = .ok (.ldiv, 1) := by decide +kernel
theorem dX1_turned_64 : decode cX1_turned 64 = .ok (.aload_n 0, 1) := by decide +kernel
theorem dX1_turned_65 : decode cX1_turned 65 = .ok (.getfield 35, 3) := by decide +kernel
theorem dX1_turned_68 : decode cX1_turned 68 = .ok (.iload_n 1, 1) := by decide +kernel
theorem dX1_turned_69 : decode cX1_turned 69 = .ok (.laload, 1) := by decide +kernel
theorem dX1_turned_70 : decode cX1_turned 70 = .ok (.ldc2_w 89, 3) := by decide +kernel
theorem dX1_turned_73 : decode cX1_turned 73 = .ok (.lmul, 1) := by decide +kernel
theorem dX1_turned_74 : decode cX1_turned 74 = .ok (.lload 4, 2) := by decide +kernel
theorem dX1_turned_76 : decode cX1_turned 76 = .ok (.invokestatic 91, 3) := by decide +kernel
theorem dX1_turned_79 : decode cX1_turned 79 = .ok (.invokestatic 94, 3) := by decide +kernel
theorem dX1_turned_82 : decode cX1_turned 82 = .ok (.invokestatic 94, 3) := by decide +kernel
theorem dX1_turned_85 : decode cX1_turned 85 = .ok (.lreturn, 1) := by decide +kernel
theorem q_232 : Cond.fieldLink RX1 83 RX0 "time" "[I" ∈ zTB := zmem 232 (by decide +kernel) rfl
theorem q_409 : Cond.fieldLink RX1 35 RX1 "work" "[J" ∈ zTB := zmem 409 (by decide +kernel) rfl
theorem q_392 : Cond.fieldLink RX1 12 RX1 "net" "LWorkChains$Net;" ∈ zTB := zmem 392 (by decide +kernel) rfl
theorem q_180 : Cond.fieldLink RX1 86 RX6 "target" "I" ∈ zTB := zmem 180 (by decide +kernel) rfl
theorem q_915 : Cond.constantLong RX1 89 (zL (4)) ∈ zTB := zmem 915 (by decide +kernel) rfl
def F_X1_turned (i : Nat) (X Y : Nat → Int → Int) (R : Nat → Int → Option Nat) (a : Int) (b : Int) : Prop := (∀ i j, rI (X i j)) → (∀ i j, rL (Y i j)) → ((¬ b = (-1)) → ((0 ≤ a ∧ a < 15) ∧ ((0 ≤ b ∧ b < 15) ∧ ((0 ≤ a ∧ a < 15) ∧ ((rI ((X (cb R i + 2) (a)) - (X (cb R i + 2) (b)))) ∧ ((rL ((Y (i + 12) (a)) * (X (cn R i) 1))) ∧ ((max (1) ((X (cb R i + 2) (a)) - (X (cb R i + 2) (b))) ≠ 0 ∧ max (1) ((X (cb R i + 2) (a)) - (X (cb R i + 2) (b))) ≠ -1) ∧ ((0 ≤ a ∧ a < 15) ∧ ((0 ≤ a ∧ a < 15) ∧ ((rL ((Y (i + 12) (a)) * ((4)))) ∧ ((rL (((Y (i + 12) (a)) * (X (cn R i) 1)).tdiv (max (1) ((X (cb R i + 2) (a)) - (X (cb R i + 2) (b)))))) ∧ ((rL ((Y (i + 12) (a)).tdiv ((4)))) ∧ (max (1) (max ((Y (i + 12) (a)).tdiv ((4))) (min ((Y (i + 12) (a)) * ((4))) (((Y (i + 12) (a)) * (X (cn R i) 1)).tdiv (max (1) ((X (cb R i + 2) (a)) - (X (cb R i + 2) (b))))))) = trE X Y R i (a) (b)))))))))))))) ∧ ((¬ (¬ b = (-1))) → ((0 ≤ a ∧ a < 15) ∧ ((rL ((Y (i + 12) (a)) * (X (cn R i) 1))) ∧ ((max (1 : Int) (0) ≠ 0 ∧ max (1 : Int) (0) ≠ -1) ∧ ((0 ≤ a ∧ a < 15) ∧ ((0 ≤ a ∧ a < 15) ∧ ((rL ((Y (i + 12) (a)) * ((4)))) ∧ ((rL (((Y (i + 12) (a)) * (X (cn R i) 1)).tdiv (max (1 : Int) (0)))) ∧ ((rL ((Y (i + 12) (a)).tdiv ((4)))) ∧ (max (1) (max ((Y (i + 12) (a)).tdiv ((4))) (min ((Y (i + 12) (a)) * ((4))) (((Y (i + 12) (a)) * (X (cn R i) 1)).tdiv (max (1 : Int) (0))))) = trE X Y R i (a) (b)))))))))))
set_option maxHeartbeats 4000000 in
set_option maxRecDepth 100000 in
theorem w_X1_turned {l : Launch} {D : va_G} {cy : Nat → ClassId} {bs N : Nat} {sa : Nat → Nat} {kd len : Nat → Nat} {X Y : Nat → Int → Int} {R : Nat → Int → Option Nat} {i : Nat} (hC : zChart N kd len R i) (a : Int) (ha : rI a) (b : Int) (hb : rI b) (hF : F_X1_turned i X Y R a b) : Met l yX1_turned (.code yX1_turned cX1_turned 6 (some .long) :: zTB) (zRm 1 60) (zPc D cy bs sa N kd len X Y R [.ref (bs + (i)), .int (zI (a)), .int (zI (b))]) (zQl D cy bs N kd len (fun r st => r = trE X Y R i (a) (b) ∧ st = (X, Y, R))) 0 0 (zA bs) := by
  refine zstart (by decide) (Nat.le_of_ble_eq_true rfl) ?_
  intro p e s m args below meth c ls C hE hH hr hlk hnm hl hargs
  have hF := hF hH.2.2.1 hH.2.2.2
  have hS : va_S (zA bs) s.heap s.heap [] := va_S.rf
  have hl : lv_has ls 6 [(0, .ref (bs + (i))), (1, .int (zI (a))), (2, .int (zI (b)))] := hl
  refine lv_iload_n C.1 C.2.1 dX1_turned_0 rfl (lv_at hl 2 rfl) ?_
  refine zd_iconst C dX1_turned_1 ?_
  refine zd_icmp_ne C hb (by decide) 9 dX1_turned_2 (by decide) (fun c1 => ?_) (fun c1 => ?_)
  · have hF := hF.1 c1
    refine lv_aload_n C.1 C.2.1 dX1_turned_9 rfl (lv_at hl 0 rfl) ?_
    refine zg1_1 C hH (zChart_n0 hC) (zChart_k0 hC) q_394 (zChart_blk hC).1 dX1_turned_10 ?_
    refine zg0_2 C hH (zBlocks_n0 (zChart_blk hC).2) (zBlocks_k0 (zChart_blk hC).2) q_232 (zBlocks_r2 (zChart_blk hC).2) dX1_turned_13 ?_
    refine lv_iload_n C.1 C.2.1 dX1_turned_16 rfl (lv_at hl 1 rfl) ?_
    obtain ⟨o2, hF⟩ := hF
    refine zd_iald C hH (zBlocks_n2 (zChart_blk hC).2) (zBlocks_k2 (zChart_blk hC).2) o2.1 (by rw [zBlocks_l2 (zChart_blk hC).2]; exact o2.2) (by rw [zBlocks_l2 (zChart_blk hC).2]; decide) dX1_turned_17 ?_
    refine lv_aload_n C.1 C.2.1 dX1_turned_18 rfl (lv_at hl 0 rfl) ?_
    refine zg1_1 C hH (zChart_n0 hC) (zChart_k0 hC) q_394 (zChart_blk hC).1 dX1_turned_19 ?_
    refine zg0_2 C hH (zBlocks_n0 (zChart_blk hC).2) (zBlocks_k0 (zChart_blk hC).2) q_232 (zBlocks_r2 (zChart_blk hC).2) dX1_turned_22 ?_
    refine lv_iload_n C.1 C.2.1 dX1_turned_25 rfl (lv_at hl 2 rfl) ?_
    obtain ⟨o3, hF⟩ := hF
    refine zd_iald C hH (zBlocks_n2 (zChart_blk hC).2) (zBlocks_k2 (zChart_blk hC).2) o3.1 (by rw [zBlocks_l2 (zChart_blk hC).2]; exact o3.2) (by rw [zBlocks_l2 (zChart_blk hC).2]; decide) dX1_turned_26 ?_
    refine zd_isub C dX1_turned_27 ?_
    refine lv_istore_n (lv' := [(3, .int (zI ((X (cb R i + 2) (a)) - (X (cb R i + 2) (b))))), (0, .ref (bs + (i))), (1, .int (zI (a))), (2, .int (zI (b)))]) C.1 C.2.1 dX1_turned_28 rfl hl (by decide) rfl (fun ls hl => ?_)
    refine lv_aload_n C.1 C.2.1 dX1_turned_29 rfl (lv_at hl 1 rfl) ?_
    refine zg1_7 C hH (zChart_n0 hC) (zChart_k0 hC) q_409 (zChart_r12 hC) dX1_turned_30 ?_
    refine lv_iload_n C.1 C.2.1 dX1_turned_33 rfl (lv_at hl 2 rfl) ?_
    obtain ⟨o4, hF⟩ := hF
    refine zd_lald C hH (zChart_n12 hC) (zChart_k12 hC) o4.1 (by rw [zChart_l12 hC]; exact o4.2) (by rw [zChart_l12 hC]; decide) dX1_turned_34 ?_
    refine lv_aload_n C.1 C.2.1 dX1_turned_35 rfl (lv_at hl 1 rfl) ?_
    refine zg1_0 C hH (zChart_n0 hC) (zChart_k0 hC) q_392 (zChart_net hC).1 dX1_turned_36 ?_
    refine zg6_1 C hH (zNet_n0 (zChart_net hC).2) (zNet_k0 (zChart_net hC).2) q_180 dX1_turned_39 ?_
    refine zd_i2l C (hH.2.2.1 _ _) dX1_turned_42 ?_
    refine zd_lmul C dX1_turned_43 ?_
    refine zd_iconst C dX1_turned_44 ?_
    refine lv_iload_n C.1 C.2.1 dX1_turned_45 rfl (lv_at hl 0 rfl) ?_
    obtain ⟨o5, hF⟩ := hF
    refine zd_mmax C hl.1 q_902 q_805 q_141 q_806 (Nat.le_of_ble_eq_true rfl) (Nat.le_of_ble_eq_true rfl) (Nat.zero_le _) (Nat.zero_le _) (by decide) o5 dX1_turned_46 ?_
    refine zd_i2l C (mx_rI (by decide) o5) dX1_turned_49 ?_
    obtain ⟨o6, hF⟩ := hF
    obtain ⟨o7, hF⟩ := hF
    refine zd_ldiv C o6 (rI_rL (mx_rI (by decide) o5)) o7.1 o7.2 dX1_turned_50 ?_
    refine lv_lstore (lv' := [(4, .long (zL (((Y (i + 12) (a)) * (X (cn R i) 1)).tdiv (max (1) ((X (cb R i + 2) (a)) - (X (cb R i + 2) (b))))))), (3, .int (zI ((X (cb R i + 2) (a)) - (X (cb R i + 2) (b))))), (0, .ref (bs + (i))), (1, .int (zI (a))), (2, .int (zI (b)))]) C.1 C.2.1 dX1_turned_51 hl (by decide) rfl (fun ls hl => ?_)
    refine lv_lconst (v := zL 1) C.1 C.2.1 dX1_turned_53 rfl ?_
    refine lv_aload_n C.1 C.2.1 dX1_turned_54 rfl (lv_at hl 2 rfl) ?_
    refine zg1_7 C hH (zChart_n0 hC) (zChart_k0 hC) q_409 (zChart_r12 hC) dX1_turned_55 ?_
    refine lv_iload_n C.1 C.2.1 dX1_turned_58 rfl (lv_at hl 3 rfl) ?_
    obtain ⟨o8, hF⟩ := hF
    refine zd_lald C hH (zChart_n12 hC) (zChart_k12 hC) o8.1 (by rw [zChart_l12 hC]; exact o8.2) (by rw [zChart_l12 hC]; decide) dX1_turned_59 ?_
    refine lv_ldc2 (v := zL (4)) C.1 C.2.1 C.2.2.2.1 (C.2.2.2.2.1 _ q_915) dX1_turned_60 ?_
    refine zd_ldiv C (hH.2.2.2 _ _) (by decide) (by decide) (by decide) dX1_turned_63 ?_
    refine lv_aload_n C.1 C.2.1 dX1_turned_64 rfl (lv_at hl 2 rfl) ?_
    refine zg1_7 C hH (zChart_n0 hC) (zChart_k0 hC) q_409 (zChart_r12 hC) dX1_turned_65 ?_
    refine lv_iload_n C.1 C.2.1 dX1_turned_68 rfl (lv_at hl 3 rfl) ?_
    obtain ⟨o9, hF⟩ := hF
    refine zd_lald C hH (zChart_n12 hC) (zChart_k12 hC) o9.1 (by rw [zChart_l12 hC]; exact o9.2) (by rw [zChart_l12 hC]; decide) dX1_turned_69 ?_
    refine lv_ldc2 (v := zL (4)) C.1 C.2.1 C.2.2.2.1 (C.2.2.2.2.1 _ q_915) dX1_turned_70 ?_
    refine zd_lmul C dX1_turned_73 ?_
    refine lv_lload C.1 C.2.1 dX1_turned_74 (lv_at hl 0 rfl) ?_
    obtain ⟨o10, hF⟩ := hF
    obtain ⟨o11, hF⟩ := hF
    refine zd_mminL C hl.1 q_916 q_917 q_141 q_918 (Nat.le_of_ble_eq_true rfl) (Nat.le_of_ble_eq_true rfl) (Nat.zero_le _) (Nat.zero_le _) o10 o11 dX1_turned_76 ?_
    obtain ⟨o12, hF⟩ := hF
    refine zd_mmaxL C hl.1 q_919 q_920 q_141 q_921 (Nat.le_of_ble_eq_true rfl) (Nat.le_of_ble_eq_true rfl) (Nat.zero_le _) (Nat.zero_le _) o12 (mn_rL o10 o11) dX1_turned_79 ?_
    refine zd_mmaxL C hl.1 q_919 q_920 q_141 q_921 (Nat.le_of_ble_eq_true rfl) (Nat.le_of_ble_eq_true rfl) (Nat.zero_le _) (Nat.zero_le _) (by decide) (mx_rL o12 (mn_rL o10 o11)) dX1_turned_82 ?_
    exact zd_lret C hr hlk hH hS (mx_rL (by decide) (mx_rL o12 (mn_rL o10 o11))) (⟨hF, rfl⟩) dX1_turned_85
  · have hF := hF.2 c1
    refine zd_iconst C dX1_turned_5 ?_
    refine lv_goto (tgt := 28) C.1 C.2.1 dX1_turned_6 (by decide) ?_
    refine lv_istore_n (lv' := [(3, .int (zI (0))), (0, .ref (bs + (i))), (1, .int (zI (a))), (2, .int (zI (b)))]) C.1 C.2.1 dX1_turned_28 rfl hl (by decide) rfl (fun ls hl => ?_)
    refine lv_aload_n C.1 C.2.1 dX1_turned_29 rfl (lv_at hl 1 rfl) ?_
    refine zg1_7 C hH (zChart_n0 hC) (zChart_k0 hC) q_409 (zChart_r12 hC) dX1_turned_30 ?_
    refine lv_iload_n C.1 C.2.1 dX1_turned_33 rfl (lv_at hl 2 rfl) ?_
    obtain ⟨o13, hF⟩ := hF
    refine zd_lald C hH (zChart_n12 hC) (zChart_k12 hC) o13.1 (by rw [zChart_l12 hC]; exact o13.2) (by rw [zChart_l12 hC]; decide) dX1_turned_34 ?_
    refine lv_aload_n C.1 C.2.1 dX1_turned_35 rfl (lv_at hl 1 rfl) ?_
    refine zg1_0 C hH (zChart_n0 hC) (zChart_k0 hC) q_392 (zChart_net hC).1 dX1_turned_36 ?_
    refine zg6_1 C hH (zNet_n0 (zChart_net hC).2) (zNet_k0 (zChart_net hC).2) q_180 dX1_turned_39 ?_
    refine zd_i2l C (hH.2.2.1 _ _) dX1_turned_42 ?_
    refine zd_lmul C dX1_turned_43 ?_
    refine zd_iconst C dX1_turned_44 ?_
    refine lv_iload_n C.1 C.2.1 dX1_turned_45 rfl (lv_at hl 0 rfl) ?_
    refine zd_mmax C hl.1 q_902 q_805 q_141 q_806 (Nat.le_of_ble_eq_true rfl) (Nat.le_of_ble_eq_true rfl) (Nat.zero_le _) (Nat.zero_le _) (by decide) (by decide) dX1_turned_46 ?_
    refine zd_i2l C (mx_rI (by decide) (by decide)) dX1_turned_49 ?_
    obtain ⟨o14, hF⟩ := hF
    obtain ⟨o15, hF⟩ := hF
    refine zd_ldiv C o14 (rI_rL (mx_rI (by decide) (by decide))) o15.1 o15.2 dX1_turned_50 ?_
    refine lv_lstore (lv' := [(4, .long (zL (((Y (i + 12) (a)) * (X (cn R i) 1)).tdiv (max (1 : Int) (0))))), (3, .int (zI (0))), (0, .ref (bs + (i))), (1, .int (zI (a))), (2, .int (zI (b)))]) C.1 C.2.1 dX1_turned_51 hl (by decide) rfl (fun ls hl => ?_)
    refine lv_lconst (v := zL 1) C.1 C.2.1 dX1_turned_53 rfl ?_
    refine lv_aload_n C.1 C.2.1 dX1_turned_54 rfl (lv_at hl 2 rfl) ?_
    refine zg1_7 C hH (zChart_n0 hC) (zChart_k0 hC) q_409 (zChart_r12 hC) dX1_turned_55 ?_
    refine lv_iload_n C.1 C.2.1 dX1_turned_58 rfl (lv_at hl 3 rfl) ?_
    obtain ⟨o16, hF⟩ := hF
    refine zd_lald C hH (zChart_n12 hC) (zChart_k12 hC) o16.1 (by rw [zChart_l12 hC]; exact o16.2) (by rw [zChart_l12 hC]; decide) dX1_turned_59 ?_
    refine lv_ldc2 (v := zL (4)) C.1 C.2.1 C.2.2.2.1 (C.2.2.2.2.1 _ q_915) dX1_turned_60 ?_
    refine zd_ldiv C (hH.2.2.2 _ _) (by decide) (by decide) (by decide) dX1_turned_63 ?_
    refine lv_aload_n C.1 C.2.1 dX1_turned_64 rfl (lv_at hl 2 rfl) ?_
    refine zg1_7 C hH (zChart_n0 hC) (zChart_k0 hC) q_409 (zChart_r12 hC) dX1_turned_65 ?_
    refine lv_iload_n C.1 C.2.1 dX1_turned_68 rfl (lv_at hl 3 rfl) ?_
    obtain ⟨o17, hF⟩ := hF
    refine zd_lald C hH (zChart_n12 hC) (zChart_k12 hC) o17.1 (by rw [zChart_l12 hC]; exact o17.2) (by rw [zChart_l12 hC]; decide) dX1_turned_69 ?_
    refine lv_ldc2 (v := zL (4)) C.1 C.2.1 C.2.2.2.1 (C.2.2.2.2.1 _ q_915) dX1_turned_70 ?_
    refine zd_lmul C dX1_turned_73 ?_
    refine lv_lload C.1 C.2.1 dX1_turned_74 (lv_at hl 0 rfl) ?_
    obtain ⟨o18, hF⟩ := hF
    obtain ⟨o19, hF⟩ := hF
    refine zd_mminL C hl.1 q_916 q_917 q_141 q_918 (Nat.le_of_ble_eq_true rfl) (Nat.le_of_ble_eq_true rfl) (Nat.zero_le _) (Nat.zero_le _) o18 o19 dX1_turned_76 ?_
    obtain ⟨o20, hF⟩ := hF
    refine zd_mmaxL C hl.1 q_919 q_920 q_141 q_921 (Nat.le_of_ble_eq_true rfl) (Nat.le_of_ble_eq_true rfl) (Nat.zero_le _) (Nat.zero_le _) o20 (mn_rL o18 o19) dX1_turned_79 ?_
    refine zd_mmaxL C hl.1 q_919 q_920 q_141 q_921 (Nat.le_of_ble_eq_true rfl) (Nat.le_of_ble_eq_true rfl) (Nat.zero_le _) (Nat.zero_le _) (by decide) (mx_rL o20 (mn_rL o18 o19)) dX1_turned_82 ?_
    exact zd_lret C hr hlk hH hS (mx_rL (by decide) (mx_rL o20 (mn_rL o18 o19))) (⟨hF, rfl⟩) dX1_turned_85
theorem v_X1_turned {X Y : Nat → Int → Int} {R : Nat → Int → Option Nat} {i : Nat} (a : Int) (ha : rI a) (b : Int) (hb : rI b) (hp : (0 ≤ a ∧ a < 15) ∧ (-1 ≤ b ∧ b < 15) ∧ (1 ≤ Y (i + 12) a ∧ Y (i + 12) a ≤ 26575110144) ∧ (1 ≤ X (cn R i) 1 ∧ X (cn R i) 1 ≤ 99) ∧ ∀ z : Int, 0 ≤ z → (z = a ∨ z = b) → 0 ≤ X (cb R i + 2) z ∧ X (cb R i + 2) z ≤ 99) : F_X1_turned i X Y R a b := by
  unfold F_X1_turned
  intro hX hY
  obtain ⟨a01, b01, y01, g01, ht⟩ := hp
  have W := wk_b (dt := X (cb R i + 2) a - X (cb R i + 2) b) y01 g01
  have W0 := wk_b (dt := 0) y01 g01
  have W4 := W.2.2.2.1
  rw [Int.mul_comm] at W4
  refine ⟨?_, ?_⟩
  · intro c1
    refine ⟨?_, ?_⟩
    · first | omega | exact ⟨by omega, by omega⟩ | decide | assumption | exact ⟨by omega, by omega, by omega⟩ | exact ⟨by decide, by decide⟩
    refine ⟨?_, ?_⟩
    · first | omega | exact ⟨by omega, by omega⟩ | decide | assumption | exact ⟨by omega, by omega, by omega⟩ | exact ⟨by decide, by decide⟩
    refine ⟨?_, ?_⟩
    · first | omega | exact ⟨by omega, by omega⟩ | decide | assumption | exact ⟨by omega, by omega, by omega⟩ | exact ⟨by decide, by decide⟩
    refine ⟨?_, ?_⟩
    · have t1 := ht a a01.1 (Or.inl rfl)
      have t2 := ht b (by omega) (Or.inr rfl)
      exact ⟨by omega, by omega⟩
    refine ⟨?_, ?_⟩
    · exact W.1
    refine ⟨?_, ?_⟩
    · exact ⟨by omega, by omega⟩
    refine ⟨?_, ?_⟩
    · first | omega | exact ⟨by omega, by omega⟩ | decide | assumption | exact ⟨by omega, by omega, by omega⟩ | exact ⟨by decide, by decide⟩
    refine ⟨?_, ?_⟩
    · first | omega | exact ⟨by omega, by omega⟩ | decide | assumption | exact ⟨by omega, by omega, by omega⟩ | exact ⟨by decide, by decide⟩
    refine ⟨?_, ?_⟩
    · exact W4
    refine ⟨?_, ?_⟩
    · exact W.2.1
    refine ⟨?_, ?_⟩
    · exact W.2.2.2.2.1
    unfold trE
    rw [sStep_t (by omega) (by omega), if_neg c1, Int.mul_comm 4]
  intro c2
  refine ⟨?_, ?_⟩
  · first | omega | exact ⟨by omega, by omega⟩ | decide | assumption | exact ⟨by omega, by omega, by omega⟩ | exact ⟨by decide, by decide⟩
  refine ⟨?_, ?_⟩
  · exact W.1
  refine ⟨?_, ?_⟩
  · decide
  refine ⟨?_, ?_⟩
  · first | omega | exact ⟨by omega, by omega⟩ | decide | assumption | exact ⟨by omega, by omega, by omega⟩ | exact ⟨by decide, by decide⟩
  refine ⟨?_, ?_⟩
  · first | omega | exact ⟨by omega, by omega⟩ | decide | assumption | exact ⟨by omega, by omega, by omega⟩ | exact ⟨by decide, by decide⟩
  refine ⟨?_, ?_⟩
  · exact W4
  refine ⟨?_, ?_⟩
  · exact W0.2.1
  refine ⟨?_, ?_⟩
  · exact W.2.2.2.2.1
  unfold trE
  rw [sStep_t (by omega) (by omega), if_pos (Classical.not_not.mp c2), Int.mul_comm 4]
theorem c_X1_turned {l : Launch} {D : va_G} {cy : Nat → ClassId} {bs N : Nat} {sa : Nat → Nat} {kd len : Nat → Nat} {X Y : Nat → Int → Int} {R : Nat → Int → Option Nat} {i : Nat} (hC : zChart N kd len R i) (a : Int) (ha : rI a) (b : Int) (hb : rI b) (hp : (0 ≤ a ∧ a < 15) ∧ (-1 ≤ b ∧ b < 15) ∧ (1 ≤ Y (i + 12) a ∧ Y (i + 12) a ≤ 26575110144) ∧ (1 ≤ X (cn R i) 1 ∧ X (cn R i) 1 ≤ 99) ∧ ∀ z : Int, 0 ≤ z → (z = a ∨ z = b) → 0 ≤ X (cb R i + 2) z ∧ X (cb R i + 2) z ≤ 99) : Met l yX1_turned (.code yX1_turned cX1_turned 6 (some .long) :: zTB) (zRm 1 60) (zPc D cy bs sa N kd len X Y R [.ref (bs + (i)), .int (zI (a)), .int (zI (b))]) (zQl D cy bs N kd len (fun r st => r = trE X Y R i (a) (b) ∧ st = (X, Y, R))) 0 0 (zA bs) := w_X1_turned hC a ha b hb (v_X1_turned a ha b hb hp)
theorem tmod_nat (a b : Nat) : (a : Int).tmod b = ((a % b : Nat) : Int) := rfl
theorem bR_t {Z : Nat → Int → Int} {q : Nat} {X : Nat → Int → Int} {b : Nat} (hv : vZ Z q) (h : bR Z q X b) {z : Int} (h0 : 0 ≤ z) (h1 : z < Z q 27) : X (b + 2) z = rT Z q z.toNat ∧ 0 ≤ rT Z q z.toNat ∧ rT Z q z.toNat ≤ 99 := by
  have e : ((z.toNat : Nat) : Int) = z := by omega
  by_cases g : z = 0
  · subst g
    refine ⟨h.2.1, ?_⟩
    show 0 ≤ mTim Z q 0 ∧ mTim Z q 0 ≤ 99
    unfold mTim
    rw [if_pos rfl]
    decide
  · unfold rT mTim
    rw [e, if_neg g]
    exact ⟨(h.2.2 z (by omega) h1).2.1, (hv.2.2.1 z (by omega) (by omega))⟩
theorem rW_b {Z : Nat → Int → Int} {q : Nat} (hv : vZ Z q) (hn : vN Z q) (k : Nat) (h : (k : Int) < Z q 27) : (1 ≤ rW Z q k ∧ rW Z q k ≤ 26575110144) ∧ 1 ≤ rG Z q k ∧ rG Z q k ≤ 26575110144 * (k + 1) := by
  have h1 := hv.1
  exact ⟨sWk_14 (vZ_p hv) (by omega) hn.1.2.2.2.1 hn.1.2.2.2.2 k (by omega), sWg_14 (vZ_p hv) (by omega) hn.1.2.2.2.1 hn.1.2.2.2.2 k (by omega)⟩
theorem rG_s {Z : Nat → Int → Int} {q k : Nat} (h : rP Z q k < k) : rG Z q k = rG Z q (rP Z q k) + rW Z q k := pr_s h
theorem rW_s {Z : Nat → Int → Int} {q k : Nat} (h : rP Z q k < k) : rW Z q k = if sHg (rP Z q) k % (Z q 30).toNat ≠ 0 then rW Z q (rP Z q k) else sStep (rW Z q (rP Z q k)) (mG Z q 1) (rT Z q (rP Z q k) - rT Z q (aN (rP Z q) (rP Z q k) ((Z q 30).toNat - 1)).toNat) := pr_s h
theorem wR_s {Z : Nat → Int → Int} {q : Nat} {Y Y1 : Nat → Int → Int} {i k : Nat} {w g : Int} (h : wR Z q Y i k) (e : Y1 = zU (zU Y (i + 12) k w) (i + 13) k g) (hw : w = rW Z q k) (hg : g = rG Z q k) : wR Z q Y1 i (k + 1) := by
  intro z hz
  rw [e, zU_up, zU_o (show i + 12 ≠ i + 13 by omega), zU_up, zU_o (show i + 13 ≠ i + 12 by omega)]
  unfold upI
  by_cases c : (z : Int) = k
  · have e : z = k := by omega
    subst e
    rw [if_pos rfl, if_pos rfl]
    exact ⟨hw, hg⟩
  · rw [if_neg c, if_neg c]
    exact h z (by omega)
theorem mod_le {a b : Nat} (h : a % b = 0) (h0 : 0 < a) : b ≤ a := Nat.le_of_dvd h0 (Nat.dvd_of_mod_eq_zero h)
abbrev cX1_weigh : ByteArray := prog_3_method_3_code
def yX1_weigh : MethodName := ⟨RX1, "weigh", "(LWorkChains$Net;I)V"⟩
theorem dX1_weigh_0 : decode cX1_weigh 0 = .ok (.aload_n 0, 1) := by decide +kernel
theorem dX1_weigh_1 : decode cX1_weigh 1 = .ok (.aload_n 1, 1) := by decide +kernel
theorem dX1_weigh_2 : decode cX1_weigh 2 = .ok (.putfield 12, 3) := by decide +kernel
theorem dX1_weigh_5 : decode cX1_weigh 5 = .ok (.aload_n 0, 1) := by decide +kernel
theorem dX1_weigh_6 : decode cX1_weigh 6 = .ok (.getfield 35, 3) := by decide +kernel
theorem dX1_weigh_9 : decode cX1_weigh 9 = .ok (.iconst 0, 1) := by decide +kernel
theorem dX1_weigh_10 : decode cX1_weigh 10 = .ok (.aload_n 1, 1) := by decide +kernel
theorem dX1_weigh_11 : decode cX1_weigh 11 = .ok (.getfield 73, 3) := by decide +kernel
theorem dX1_weigh_14 : decode cX1_weigh 14 = .ok (.i2l, 1) := by decide +kernel
theorem dX1_weigh_15 : decode cX1_weigh 15 = .ok (.lastore, 1) := by decide +kernel
theorem dX1_weigh_16 : decode cX1_weigh 16 = .ok (.aload_n 0, 1) := by decide +kernel
theorem dX1_weigh_17 : decode cX1_weigh 17 = .ok (.getfield 39, 3) := by decide +kernel
theorem dX1_weigh_20 : decode cX1_weigh 20 = .ok (.iconst 0, 1) := by decide +kernel
theorem dX1_weigh_21 : decode cX1_weigh 21 = .ok (.aload_n 1, 1) := by decide +kernel
theorem dX1_weigh_22 : decode cX1_weigh 22 = .ok (.getfield 73, 3) := by decide +kernel
theorem dX1_weigh_25 : decode cX1_weigh 25 = .ok (.i2l, 1) := by decide +kernel
theorem dX1_weigh_26 : decode cX1_weigh 26 = .ok (.lastore, 1) := by decide +kernel
theorem dX1_weigh_27 : decode cX1_weigh 27 = .ok (.iconst 1, 1) := by decide +kernel
theorem dX1_weigh_28 : decode cX1_weigh 28 = .ok (.istore_n 3, 1) := by decide +kernel
theorem dX1_weigh_29 : decode cX1_weigh 29 = .ok (.iload_n 3, 1) := by decide +kernel
theorem dX1_weigh_30 : decode cX1_weigh 30 = .ok (.aload_n 0, 1) := by decide +kernel
theorem dX1_weigh_31 : decode cX1_weigh 31 = .ok (.getfield 68, 3) := by decide +kernel
theorem dX1_weigh_34 : decode cX1_weigh 34 = .ok (.if_icmp .gt 95, 3) := by decide +kernel
theorem dX1_weigh_37 : decode cX1_weigh 37 = .ok (.aload_n 0, 1) := by decide +kernel
theorem dX1_weigh_38 : decode cX1_weigh 38 = .ok (.getfield 25, 3) := by decide +kernel
theorem dX1_weigh_41 : decode cX1_weigh 41 = .ok (.iload_n 3, 1) := by decide +kernel
theorem dX1_weigh_42 : decode cX1_weigh 42 = .ok (.iaload, 1) := by decide +kernel
theorem dX1_weigh_43 : decode cX1_weigh 43 = .ok (.istore 4, 2) := by decide +kernel
theorem dX1_weigh_45 : decode cX1_weigh 45 = .ok (.iload_n 2, 1) := by decide +kernel
theorem dX1_weigh_46 : decode cX1_weigh 46 = .ok (.ifCond .le 18, 3) := by decide +kernel
theorem dX1_weigh_49 : decode cX1_weigh 49 = .ok (.aload_n 0, 1) := by decide +kernel
theorem dX1_weigh_50 : decode cX1_weigh 50 = .ok (.getfield 32, 3) := by decide +kernel
theorem dX1_weigh_53 : decode cX1_weigh 53 = .ok (.iload_n 3, 1) := by decide +kernel
theorem dX1_weigh_54 : decode cX1_weigh 54 = .ok (.iaload, 1) := by decide +kernel
theorem dX1_weigh_55 : decode cX1_weigh 55 = .ok (.iload_n 2, 1) := by decide +kernel
theorem dX1_weigh_56 : decode cX1_weigh 56 = .ok (.irem, 1) := by decide +kernel
theorem dX1_weigh_57 : decode cX1_weigh 57 = .ok (.ifCond .ne 7, 3) := by decide +kernel
theorem dX1_weigh_60 : decode cX1_weigh 60 = .ok (.iconst 1, 1) := by decide +kernel
theorem dX1_weigh_61 : decode cX1_weigh 61 = .ok (.goto 4, 3) := by decide +kernel
theorem dX1_weigh_64 : decode cX1_weigh 64 = .ok (.iconst 0, 1) := by decide +kernel
theorem dX1_weigh_65 : decode cX1_weigh 65 = .ok (.istore 5, 2) := by decide +kernel
theorem dX1_weigh_67 : decode cX1_weigh 67 = .ok (.aload_n 0, 1) := by decide +kernel
theorem dX1_weigh_68 : decode cX1_weigh 68 = .ok (.getfield 35, 3) := by decide +kernel
theorem dX1_weigh_71 : decode cX1_weigh 71 = .ok (.iload_n 3, 1) := by decide +kernel
theorem dX1_weigh_72 : decode cX1_weigh 72 = .ok (.iload 5, 2) := by decide +kernel
theorem dX1_weigh_74 : decode cX1_weigh 74 = .ok (.ifCond .eq 21, 3) := by decide +kernel
theorem dX1_weigh_77 : decode cX1_weigh 77 = .ok (.aload_n 0, 1) := by decide +kernel
theorem dX1_weigh_78 : decode cX1_weigh 78 = .ok (.iload 4, 2) := by decide +kernel
theorem dX1_weigh_80 : decode cX1_weigh 80 = .ok (.aload_n 0, 1) := by decide +kernel
theorem dX1_weigh_81 : decode cX1_weigh 81 = .ok (.iload 4, 2) := by decide +kernel
theorem dX1_weigh_83 : decode cX1_weigh 83 = .ok (.iload_n 2, 1) := by decide +kernel
theorem dX1_weigh_84 : decode cX1_weigh 84 = .ok (.iconst 1, 1) := by decide +kernel
theorem dX1_weigh_85 : decode cX1_weigh 85 = .ok (.isub, 1) := by decide +kernel
theorem dX1_weigh_86 : decode cX1_weigh 86 = .ok (.invokevirtual 76, 3) := by decide +kernel
theorem dX1_weigh_89 : decode cX1_weigh 89 = .ok (.invokevirtual 79, 3) := by decide +kernel
theorem dX1_weigh_92 : decode cX1_weigh 92 = .ok (.goto 10, 3) := by decide +kernel
theorem dX1_weigh_95 : decode cX1_weigh 95 = .ok (.aload_n 0, 1) := by decide +kernel
theorem dX1_weigh_96 : decode cX1_weigh 96 = .ok (.getfield 35, 3) := by decide +kernel
theorem dX1_weigh_99 : decode cX1_weigh 99 = .ok (.iload 4, 2) := by decide +kernel
theorem dX1_weigh_101 : decode cX1_weigh 101 = .ok (.laload, 1) := by decide +kernel
theorem dX1_weigh_102 : decode cX1_weigh 102 = .ok (.lastore, 1) := by decide +kernel
theorem dX1_weigh_103 : decode cX1_weigh 103 = .ok (.aload_n 0, 1) := by decide +kernel
theorem dX1_weigh_104 : decode cX1_weigh 104 = .ok (.getfield 39, 3) := by decide +kernel
theorem dX1_weigh_107 : decode cX1_weigh 107 = .ok (.iload_n 3, 1) := by decide +kernel
theorem dX1_weigh_108 : decode cX1_weigh 108 = .ok (.aload_n 0, 1) := by decide +kernel
theorem dX1_weigh_109 : decode cX1_weigh 109 = .ok (.getfield 39, 3) := by decide +kernel
theorem dX1_weigh_112 : decode cX1_weigh 112 = .ok (.iload 4, 2) := by decide +kernel
theorem dX1_weigh_114 : decode cX1_weigh 114 = .ok (.laload, 1) := by decide +kernel
theorem dX1_weigh_115 : decode cX1_weigh 115 = .ok (.aload_n 0, 1) := by decide +kernel
theorem dX1_weigh_116 : decode cX1_weigh 116 = .ok (.getfield 35, 3) := by decide +kernel
theorem dX1_weigh_119 : decode cX1_weigh 119 = .ok (.iload_n 3, 1) := by decide +kernel
theorem dX1_weigh_120 : decode cX1_weigh 120 = .ok (.laload, 1) := by decide +kernel
theorem dX1_weigh_121 : decode cX1_weigh 121 = .ok (.ladd, 1) := by decide +kernel
theorem dX1_weigh_122 : decode cX1_weigh 122 = .ok (.lastore, 1) := by decide +kernel
theorem dX1_weigh_123 : decode cX1_weigh 123 = .ok (.iinc 3 1, 3) := by decide +kernel
theorem dX1_weigh_126 : decode cX1_weigh 126 = .ok (.goto (-97), 3) := by decide +kernel
theorem dX1_weigh_129 : decode cX1_weigh 129 = .ok (.return_, 1) := by decide +kernel
theorem q_183 : Cond.fieldLink RX1 73 RX6 "start" "I" ∈ zTB := zmem 183 (by decide +kernel) rfl
theorem q_411 : Cond.fieldLink RX1 39 RX1 "weight" "[J" ∈ zTB := zmem 411 (by decide +kernel) rfl
theorem q_907 : Cond.methodLink RX1 76 yX1_ahead ∈ zTB := zmem 907 (by decide +kernel) rfl
theorem q_908 : Cond.instanceMethod yX1_ahead ∈ zTB := zmem 908 (by decide +kernel) rfl
theorem q_909 : Cond.selects RX1 yX1_ahead yX1_ahead ∈ zTB := zmem 909 (by decide +kernel) rfl
theorem q_135 : Cond.initialized RX1 ∈ zTB := zmem 135 (by decide +kernel) rfl
theorem q_910 : Cond.code yX1_ahead cX1_ahead 5 (some .int) ∈ zTB := zmem 910 (by decide +kernel) rfl
theorem k_RX1_76 : zLv RX1 76 RX1 yX1_ahead cX1_ahead 5 (some .int) 2 := ⟨⟨q_907, q_908, q_909, q_135, q_910⟩, rfl, ⟨by decide, by decide⟩, by decide +kernel⟩
theorem q_911 : Cond.methodLink RX1 79 yX1_turned ∈ zTB := zmem 911 (by decide +kernel) rfl
theorem q_913 : Cond.instanceMethod yX1_turned ∈ zTB := zmem 913 (by decide +kernel) rfl
theorem q_15 : Cond.selects RX1 yX1_turned yX1_turned ∈ zTB := zmem 15 (by decide +kernel) rfl
theorem q_914 : Cond.code yX1_turned cX1_turned 6 (some .long) ∈ zTB := zmem 914 (by decide +kernel) rfl
theorem k_RX1_79 : zLv RX1 79 RX1 yX1_turned cX1_turned 6 (some .long) 2 := ⟨⟨q_911, q_913, q_15, q_135, q_914⟩, rfl, ⟨by decide, by decide⟩, by decide +kernel⟩
def F_X1_weigh (i : Nat) (Z : Nat → Int → Int) (q : Nat) (j : Nat) (X Y : Nat → Int → Int) (R : Nat → Int → Option Nat) (b : Int) : Prop := (∀ i j, rI (X i j)) → (∀ i j, rL (Y i j)) → ∀ R1 : Nat → Int → Option Nat, R1 = zU R (i) 0 (some (j)) → (∀ Y2 : Nat → Int → Int, Y2 = zU Y (i + 12) (0) (X (j) 2) → (∀ i j, rL (Y2 i j)) → (∀ Y3 : Nat → Int → Int, Y3 = zU Y2 (i + 13) (0) (X (j) 2) → (∀ i j, rL (Y3 i j)) → (((1 ≤ (1 : Int) ∧ (1 : Int) ≤ Z q 27) ∧ (∀ z, z ≠ i + 12 → z ≠ i + 13 → Y3 z = Y z) ∧ wR Z q Y3 i (1 : Int)) ∧ (∀ (k : Int) (Y5 : Nat → Int → Int), rI k → (∀ i j, rL (Y5 i j)) → ((1 ≤ k ∧ k ≤ Z q 27) ∧ (∀ z, z ≠ i + 12 → z ≠ i + 13 → Y5 z = Y z) ∧ wR Z q Y5 i k) → ((((X (i) 2) < k) → ((R1 = zU R i 0 (some j)) ∧ wR Z q (Y5) i (Z q 27) ∧ ∀ z, z ≠ i + 12 → z ≠ i + 13 → (Y5) z = Y z)) ∧ ((¬ ((X (i) 2) < k)) → ((0 ≤ k ∧ k < 15) ∧ (((b ≤ 0) → ((0 ≤ (X (i + 9) (k)) ∧ (X (i + 9) (k)) < 15) ∧ ((0 ≤ k ∧ k < 15) ∧ (∀ Y12 : Nat → Int → Int, Y12 = zU Y5 (i + 12) (k) (Y5 (i + 12) (X (i + 9) (k))) → (∀ i j, rL (Y12 i j)) → ((0 ≤ (X (i + 9) (k)) ∧ (X (i + 9) (k)) < 15) ∧ ((0 ≤ k ∧ k < 15) ∧ ((0 ≤ k ∧ k < 15) ∧ ((rL ((Y12 (i + 13) (X (i + 9) (k))) + (Y12 (i + 12) (k)))) ∧ (∀ Y17 : Nat → Int → Int, Y17 = zU Y12 (i + 13) (k) ((Y12 (i + 13) (X (i + 9) (k))) + (Y12 (i + 12) (k))) → (∀ i j, rL (Y17 i j)) → ((rI (k + 1)) ∧ ((1 ≤ (k + 1) ∧ (k + 1) ≤ Z q 27) ∧ (∀ z, z ≠ i + 12 → z ≠ i + 13 → Y17 z = Y z) ∧ wR Z q Y17 i (k + 1)) ∧ (((20 - (k + 1)).toNat) < ((20 - (k)).toNat)))))))))))) ∧ ((¬ (b ≤ 0)) → ((0 ≤ k ∧ k < 15) ∧ ((b ≠ 0 ∧ b ≠ -1) ∧ (((¬ ((X (i + 11) (k)).tmod (b)) = 0) → ((0 ≤ (X (i + 9) (k)) ∧ (X (i + 9) (k)) < 15) ∧ ((0 ≤ k ∧ k < 15) ∧ (∀ Y25 : Nat → Int → Int, Y25 = zU Y5 (i + 12) (k) (Y5 (i + 12) (X (i + 9) (k))) → (∀ i j, rL (Y25 i j)) → ((0 ≤ (X (i + 9) (k)) ∧ (X (i + 9) (k)) < 15) ∧ ((0 ≤ k ∧ k < 15) ∧ ((0 ≤ k ∧ k < 15) ∧ ((rL ((Y25 (i + 13) (X (i + 9) (k))) + (Y25 (i + 12) (k)))) ∧ (∀ Y30 : Nat → Int → Int, Y30 = zU Y25 (i + 13) (k) ((Y25 (i + 13) (X (i + 9) (k))) + (Y25 (i + 12) (k))) → (∀ i j, rL (Y30 i j)) → ((rI (k + 1)) ∧ ((1 ≤ (k + 1) ∧ (k + 1) ≤ Z q 27) ∧ (∀ z, z ≠ i + 12 → z ≠ i + 13 → Y30 z = Y z) ∧ wR Z q Y30 i (k + 1)) ∧ (((20 - (k + 1)).toNat) < ((20 - (k)).toNat)))))))))))) ∧ ((¬ (¬ ((X (i + 11) (k)).tmod (b)) = 0)) → ((rI (b - 1)) ∧ ((dR Z q X R1 i ∧ 0 ≤ ((X (i + 9) (k))) ∧ ((X (i + 9) (k))) < Z q 27) ∧ (rI (aN (rP Z q) ((X (i + 9) (k))).toNat ((b - 1)).toNat) → (((0 ≤ ((X (i + 9) (k))) ∧ ((X (i + 9) (k))) < 15) ∧ (-1 ≤ ((aN (rP Z q) ((X (i + 9) (k))).toNat ((b - 1)).toNat)) ∧ ((aN (rP Z q) ((X (i + 9) (k))).toNat ((b - 1)).toNat)) < 15) ∧ (1 ≤ Y5 (i + 12) ((X (i + 9) (k))) ∧ Y5 (i + 12) ((X (i + 9) (k))) ≤ 26575110144) ∧ (1 ≤ X (cn R1 i) 1 ∧ X (cn R1 i) 1 ≤ 99) ∧ ∀ z : Int, 0 ≤ z → (z = ((X (i + 9) (k))) ∨ z = ((aN (rP Z q) ((X (i + 9) (k))).toNat ((b - 1)).toNat))) → 0 ≤ X (cb R1 i + 2) z ∧ X (cb R1 i + 2) z ≤ 99) ∧ (rL (trE X Y5 R1 i ((X (i + 9) (k))) ((aN (rP Z q) ((X (i + 9) (k))).toNat ((b - 1)).toNat))) → ((0 ≤ k ∧ k < 15) ∧ (∀ Y39 : Nat → Int → Int, Y39 = zU Y5 (i + 12) (k) (trE X Y5 R1 i ((X (i + 9) (k))) ((aN (rP Z q) ((X (i + 9) (k))).toNat ((b - 1)).toNat))) → (∀ i j, rL (Y39 i j)) → ((0 ≤ (X (i + 9) (k)) ∧ (X (i + 9) (k)) < 15) ∧ ((0 ≤ k ∧ k < 15) ∧ ((0 ≤ k ∧ k < 15) ∧ ((rL ((Y39 (i + 13) (X (i + 9) (k))) + (Y39 (i + 12) (k)))) ∧ (∀ Y44 : Nat → Int → Int, Y44 = zU Y39 (i + 13) (k) ((Y39 (i + 13) (X (i + 9) (k))) + (Y39 (i + 12) (k))) → (∀ i j, rL (Y44 i j)) → ((rI (k + 1)) ∧ ((1 ≤ (k + 1) ∧ (k + 1) ≤ Z q 27) ∧ (∀ z, z ≠ i + 12 → z ≠ i + 13 → Y44 z = Y z) ∧ wR Z q Y44 i (k + 1)) ∧ (((20 - (k + 1)).toNat) < ((20 - (k)).toNat))))))))))))))))))))))))))))
set_option maxHeartbeats 4000000 in
set_option maxRecDepth 100000 in
theorem w_X1_weigh {l : Launch} {D : va_G} {cy : Nat → ClassId} {bs N : Nat} {sa : Nat → Nat} {kd len : Nat → Nat} {X Y : Nat → Int → Int} {R : Nat → Int → Option Nat} {i : Nat} {Z : Nat → Int → Int} {q : Nat} (hC : zChart N kd len R i) {j : Nat} (hn : zNet N kd len R j) (b : Int) (hb : rI b) (hF : F_X1_weigh i Z q j X Y R b) : Met l yX1_weigh (.code yX1_weigh cX1_weigh 6 none :: zTB) (zRm 2 85) (zPc D cy bs sa N kd len X Y R [.ref (bs + (i)), .ref (bs + (j)), .int (zI (b))]) (zQv D cy bs N kd len (fun st => st.1 = X ∧ ((st.2.2 = zU R i 0 (some j)) ∧ wR Z q (st.2.1) i (Z q 27) ∧ ∀ z, z ≠ i + 12 → z ≠ i + 13 → (st.2.1) z = Y z))) 0 0 (zA bs) := by
  refine zstart (by decide) (Nat.le_of_ble_eq_true rfl) ?_
  intro p e s m args below meth c ls C hE hH hr hlk hnm hl hargs
  have hF := hF hH.2.2.1 hH.2.2.2
  have hS : va_S (zA bs) s.heap s.heap [] := va_S.rf
  have hl : lv_has ls 6 [(0, .ref (bs + (i))), (1, .ref (bs + (j))), (2, .int (zI (b)))] := hl
  refine lv_aload_n C.1 C.2.1 dX1_weigh_0 rfl (lv_at hl 0 rfl) ?_
  refine lv_aload_n C.1 C.2.1 dX1_weigh_1 rfl (lv_at hl 1 rfl) ?_
  refine zp1_0 C hH hS (zChart_n0 hC) (zChart_k0 hC) q_392 dX1_weigh_2 (fun H locs hH hS => ?_)
  obtain ⟨R1, eR1⟩ : ∃ z, z = zU R (i) 0 (some (j)) := ⟨_, rfl⟩
  rw [← eR1] at hH
  have hF := hF R1 eR1
  have hC9 := zChart_putN hC eR1 hn
  have hC := hC9.1
  have hn := hC9.2
  refine lv_aload_n C.1 C.2.1 dX1_weigh_5 rfl (lv_at hl 0 rfl) ?_
  refine zg1_7 C hH (zChart_n0 hC) (zChart_k0 hC) q_409 (zChart_r12 hC) dX1_weigh_6 ?_
  refine zd_iconst C dX1_weigh_9 ?_
  refine lv_aload_n C.1 C.2.1 dX1_weigh_10 rfl (lv_at hl 1 rfl) ?_
  refine zg6_2 C hH (zNet_n0 hn) (zNet_k0 hn) q_183 dX1_weigh_11 ?_
  refine zd_i2l C (hH.2.2.1 _ _) dX1_weigh_14 ?_
  refine zd_last C hH hS (zChart_n12 hC) (zChart_k12 hC) (by decide) (by rw [zChart_l12 hC]; decide) (by rw [zChart_l12 hC]; decide) (rI_rL (hH.2.2.1 _ _)) dX1_weigh_15 (fun H locs hH hS => ?_)
  obtain ⟨Y2, eY2⟩ : ∃ z, z = zU Y (i + 12) (0) (X (j) 2) := ⟨_, rfl⟩
  rw [← eY2] at hH
  have hF := hF Y2 eY2 hH.2.2.2
  refine lv_aload_n C.1 C.2.1 dX1_weigh_16 rfl (lv_at hl 0 rfl) ?_
  refine zg1_8 C hH (zChart_n0 hC) (zChart_k0 hC) q_411 (zChart_r13 hC) dX1_weigh_17 ?_
  refine zd_iconst C dX1_weigh_20 ?_
  refine lv_aload_n C.1 C.2.1 dX1_weigh_21 rfl (lv_at hl 1 rfl) ?_
  refine zg6_2 C hH (zNet_n0 hn) (zNet_k0 hn) q_183 dX1_weigh_22 ?_
  refine zd_i2l C (hH.2.2.1 _ _) dX1_weigh_25 ?_
  refine zd_last C hH hS (zChart_n13 hC) (zChart_k13 hC) (by decide) (by rw [zChart_l13 hC]; decide) (by rw [zChart_l13 hC]; decide) (rI_rL (hH.2.2.1 _ _)) dX1_weigh_26 (fun H locs hH hS => ?_)
  obtain ⟨Y3, eY3⟩ : ∃ z, z = zU Y2 (i + 13) (0) (X (j) 2) := ⟨_, rfl⟩
  rw [← eY3] at hH
  have hF := hF Y3 eY3 hH.2.2.2
  refine zd_iconst C dX1_weigh_27 ?_
  refine lv_istore_n (lv' := [(3, .int (zI (1))), (0, .ref (bs + (i))), (1, .ref (bs + (j))), (2, .int (zI (b)))]) C.1 C.2.1 dX1_weigh_28 rfl hl (by decide) rfl (fun ls hl => ?_)
  obtain ⟨hI4, hF⟩ := hF
  have L4 : ∀ (fu : Nat) (k : Int) (Y5 : Nat → Int → Int), rI k → ((1 ≤ k ∧ k ≤ Z q 27) ∧ (∀ z, z ≠ i + 12 → z ≠ i + 13 → Y5 z = Y z) ∧ wR Z q Y5 i k) → ((20 - (k)).toNat) < fu → ∀ (H : Heap) (locs : List Loc) (ls : Array Slot), zH D cy bs N kd len X Y5 R1 H → va_S (zA bs) s.heap H locs → lv_has ls 6 [(3, .int (zI (k))), (0, .ref (bs + (i))), (1, .ref (bs + (j))), (2, .int (zI (b)))] → W p l e (zRm 2 85) s m args below meth c H locs 0 0 (MQ below (zQv D cy bs N kd len (fun st => st.1 = X ∧ ((st.2.2 = zU R i 0 (some j)) ∧ wR Z q (st.2.1) i (Z q 27) ∧ ∀ z, z ≠ i + 12 → z ≠ i + 13 → (st.2.1) z = Y z))) args s 0 0 (zA bs)) (F0 m 29 ls []) := by
    intro fu
    induction fu with
    | zero => intro k Y5 _ _ hmu; exact absurd hmu (Nat.not_lt_zero _)
    | succ fu ih4 =>
      intro k Y5 hk hI hmu4 H locs ls hH hS hl
      have hF := hF k Y5 hk hH.2.2.2 hI
      refine lv_iload_n C.1 C.2.1 dX1_weigh_29 rfl (lv_at hl 0 rfl) ?_
      refine lv_aload_n C.1 C.2.1 dX1_weigh_30 rfl (lv_at hl 1 rfl) ?_
      refine zg1_2 C hH (zChart_n0 hC) (zChart_k0 hC) q_396 dX1_weigh_31 ?_
      refine zd_icmp_gt C hk (hH.2.2.1 _ _) 129 dX1_weigh_34 (by decide) (fun c6 => ?_) (fun c6 => ?_)
      · have hF := hF.1 c6
        exact zd_vret C hr hlk hH hS (⟨rfl, hF⟩) dX1_weigh_129
      · have hF := hF.2 c6
        refine lv_aload_n C.1 C.2.1 dX1_weigh_37 rfl (lv_at hl 1 rfl) ?_
        refine zg1_4 C hH (zChart_n0 hC) (zChart_k0 hC) q_402 (zChart_r9 hC) dX1_weigh_38 ?_
        refine lv_iload_n C.1 C.2.1 dX1_weigh_41 rfl (lv_at hl 0 rfl) ?_
        obtain ⟨o7, hF⟩ := hF
        refine zd_iald C hH (zChart_n9 hC) (zChart_k9 hC) o7.1 (by rw [zChart_l9 hC]; exact o7.2) (by rw [zChart_l9 hC]; decide) dX1_weigh_42 ?_
        refine lv_istore (lv' := [(4, .int (zI (X (i + 9) (k)))), (3, .int (zI (k))), (0, .ref (bs + (i))), (1, .ref (bs + (j))), (2, .int (zI (b)))]) C.1 C.2.1 dX1_weigh_43 hl (by decide) rfl (fun ls hl => ?_)
        refine lv_iload_n C.1 C.2.1 dX1_weigh_45 rfl (lv_at hl 4 rfl) ?_
        refine zd_if_le C hb 64 dX1_weigh_46 (by decide) (fun c8 => ?_) (fun c8 => ?_)
        · have hF := hF.1 c8
          refine zd_iconst C dX1_weigh_64 ?_
          refine lv_istore (lv' := [(5, .int (zI (0))), (4, .int (zI (X (i + 9) (k)))), (3, .int (zI (k))), (0, .ref (bs + (i))), (1, .ref (bs + (j))), (2, .int (zI (b)))]) C.1 C.2.1 dX1_weigh_65 hl (by decide) rfl (fun ls hl => ?_)
          refine lv_aload_n C.1 C.2.1 dX1_weigh_67 rfl (lv_at hl 3 rfl) ?_
          refine zg1_7 C hH (zChart_n0 hC) (zChart_k0 hC) q_409 (zChart_r12 hC) dX1_weigh_68 ?_
          refine lv_iload_n C.1 C.2.1 dX1_weigh_71 rfl (lv_at hl 2 rfl) ?_
          refine lv_iload C.1 C.2.1 dX1_weigh_72 (lv_at hl 0 rfl) ?_
          refine zd_if_eq C (by decide) 95 dX1_weigh_74 (by decide) (fun c9 => ?_) (fun c9 => ?_)
          · refine lv_aload_n C.1 C.2.1 dX1_weigh_95 rfl (lv_at hl 3 rfl) ?_
            refine zg1_7 C hH (zChart_n0 hC) (zChart_k0 hC) q_409 (zChart_r12 hC) dX1_weigh_96 ?_
            refine lv_iload C.1 C.2.1 dX1_weigh_99 (lv_at hl 1 rfl) ?_
            obtain ⟨o10, hF⟩ := hF
            refine zd_lald C hH (zChart_n12 hC) (zChart_k12 hC) o10.1 (by rw [zChart_l12 hC]; exact o10.2) (by rw [zChart_l12 hC]; decide) dX1_weigh_101 ?_
            obtain ⟨o11, hF⟩ := hF
            have gg1 := hH.2.2.1
            refine zd_last C hH hS (zChart_n12 hC) (zChart_k12 hC) o11.1 (by rw [zChart_l12 hC]; exact o11.2) (by rw [zChart_l12 hC]; decide) (hH.2.2.2 _ _) dX1_weigh_102 (fun H locs hH hS => ?_)
            obtain ⟨Y12, eY12⟩ : ∃ z, z = zU Y5 (i + 12) (k) (Y5 (i + 12) (X (i + 9) (k))) := ⟨_, rfl⟩
            rw [← eY12] at hH
            have hF := hF Y12 eY12 hH.2.2.2
            refine lv_aload_n C.1 C.2.1 dX1_weigh_103 rfl (lv_at hl 3 rfl) ?_
            refine zg1_8 C hH (zChart_n0 hC) (zChart_k0 hC) q_411 (zChart_r13 hC) dX1_weigh_104 ?_
            refine lv_iload_n C.1 C.2.1 dX1_weigh_107 rfl (lv_at hl 2 rfl) ?_
            refine lv_aload_n C.1 C.2.1 dX1_weigh_108 rfl (lv_at hl 3 rfl) ?_
            refine zg1_8 C hH (zChart_n0 hC) (zChart_k0 hC) q_411 (zChart_r13 hC) dX1_weigh_109 ?_
            refine lv_iload C.1 C.2.1 dX1_weigh_112 (lv_at hl 1 rfl) ?_
            obtain ⟨o13, hF⟩ := hF
            refine zd_lald C hH (zChart_n13 hC) (zChart_k13 hC) o13.1 (by rw [zChart_l13 hC]; exact o13.2) (by rw [zChart_l13 hC]; decide) dX1_weigh_114 ?_
            refine lv_aload_n C.1 C.2.1 dX1_weigh_115 rfl (lv_at hl 3 rfl) ?_
            refine zg1_7 C hH (zChart_n0 hC) (zChart_k0 hC) q_409 (zChart_r12 hC) dX1_weigh_116 ?_
            refine lv_iload_n C.1 C.2.1 dX1_weigh_119 rfl (lv_at hl 2 rfl) ?_
            obtain ⟨o14, hF⟩ := hF
            refine zd_lald C hH (zChart_n12 hC) (zChart_k12 hC) o14.1 (by rw [zChart_l12 hC]; exact o14.2) (by rw [zChart_l12 hC]; decide) dX1_weigh_120 ?_
            refine zd_ladd C dX1_weigh_121 ?_
            obtain ⟨o15, hF⟩ := hF
            obtain ⟨o16, hF⟩ := hF
            refine zd_last C hH hS (zChart_n13 hC) (zChart_k13 hC) o15.1 (by rw [zChart_l13 hC]; exact o15.2) (by rw [zChart_l13 hC]; decide) o16 dX1_weigh_122 (fun H locs hH hS => ?_)
            obtain ⟨Y17, eY17⟩ : ∃ z, z = zU Y12 (i + 13) (k) ((Y12 (i + 13) (X (i + 9) (k))) + (Y12 (i + 12) (k))) := ⟨_, rfl⟩
            rw [← eY17] at hH
            have hF := hF Y17 eY17 hH.2.2.2
            refine zd_iinc (k := 2) (lv' := [(3, .int (zI (k + 1))), (5, .int (zI (0))), (4, .int (zI (X (i + 9) (k)))), (0, .ref (bs + (i))), (1, .ref (bs + (j))), (2, .int (zI (b)))]) C hl rfl dX1_weigh_123 (by decide) rfl (fun ls hl => ?_)
            refine lv_goto (tgt := 29) C.1 C.2.1 dX1_weigh_126 (by decide) ?_
            obtain ⟨o18, hF⟩ := hF
            exact ih4 (k + 1) Y17 o18 hF.1 (Nat.lt_of_lt_of_le hF.2 (Nat.le_of_lt_succ hmu4)) _ _ _ hH hS (lv_sub hl [0, 3, 4, 5] rfl)
          · exact absurd (by decide) c9
        · have hF := hF.2 c8
          refine lv_aload_n C.1 C.2.1 dX1_weigh_49 rfl (lv_at hl 2 rfl) ?_
          refine zg1_6 C hH (zChart_n0 hC) (zChart_k0 hC) q_407 (zChart_r11 hC) dX1_weigh_50 ?_
          refine lv_iload_n C.1 C.2.1 dX1_weigh_53 rfl (lv_at hl 1 rfl) ?_
          obtain ⟨o19, hF⟩ := hF
          refine zd_iald C hH (zChart_n11 hC) (zChart_k11 hC) o19.1 (by rw [zChart_l11 hC]; exact o19.2) (by rw [zChart_l11 hC]; decide) dX1_weigh_54 ?_
          refine lv_iload_n C.1 C.2.1 dX1_weigh_55 rfl (lv_at hl 4 rfl) ?_
          obtain ⟨o20, hF⟩ := hF
          refine zd_irem C (hH.2.2.1 _ _) hb o20.1 o20.2 dX1_weigh_56 ?_
          refine zd_if_ne C (tmod_rI (hH.2.2.1 _ _) (show (b : Int) ≠ -1 from o20.2)) 64 dX1_weigh_57 (by decide) (fun c21 => ?_) (fun c21 => ?_)
          · have hF := hF.1 c21
            refine zd_iconst C dX1_weigh_64 ?_
            refine lv_istore (lv' := [(5, .int (zI (0))), (4, .int (zI (X (i + 9) (k)))), (3, .int (zI (k))), (0, .ref (bs + (i))), (1, .ref (bs + (j))), (2, .int (zI (b)))]) C.1 C.2.1 dX1_weigh_65 hl (by decide) rfl (fun ls hl => ?_)
            refine lv_aload_n C.1 C.2.1 dX1_weigh_67 rfl (lv_at hl 3 rfl) ?_
            refine zg1_7 C hH (zChart_n0 hC) (zChart_k0 hC) q_409 (zChart_r12 hC) dX1_weigh_68 ?_
            refine lv_iload_n C.1 C.2.1 dX1_weigh_71 rfl (lv_at hl 2 rfl) ?_
            refine lv_iload C.1 C.2.1 dX1_weigh_72 (lv_at hl 0 rfl) ?_
            refine zd_if_eq C (by decide) 95 dX1_weigh_74 (by decide) (fun c22 => ?_) (fun c22 => ?_)
            · refine lv_aload_n C.1 C.2.1 dX1_weigh_95 rfl (lv_at hl 3 rfl) ?_
              refine zg1_7 C hH (zChart_n0 hC) (zChart_k0 hC) q_409 (zChart_r12 hC) dX1_weigh_96 ?_
              refine lv_iload C.1 C.2.1 dX1_weigh_99 (lv_at hl 1 rfl) ?_
              obtain ⟨o23, hF⟩ := hF
              refine zd_lald C hH (zChart_n12 hC) (zChart_k12 hC) o23.1 (by rw [zChart_l12 hC]; exact o23.2) (by rw [zChart_l12 hC]; decide) dX1_weigh_101 ?_
              obtain ⟨o24, hF⟩ := hF
              have gg2 := hH.2.2.1
              refine zd_last C hH hS (zChart_n12 hC) (zChart_k12 hC) o24.1 (by rw [zChart_l12 hC]; exact o24.2) (by rw [zChart_l12 hC]; decide) (hH.2.2.2 _ _) dX1_weigh_102 (fun H locs hH hS => ?_)
              obtain ⟨Y25, eY25⟩ : ∃ z, z = zU Y5 (i + 12) (k) (Y5 (i + 12) (X (i + 9) (k))) := ⟨_, rfl⟩
              rw [← eY25] at hH
              have hF := hF Y25 eY25 hH.2.2.2
              refine lv_aload_n C.1 C.2.1 dX1_weigh_103 rfl (lv_at hl 3 rfl) ?_
              refine zg1_8 C hH (zChart_n0 hC) (zChart_k0 hC) q_411 (zChart_r13 hC) dX1_weigh_104 ?_
              refine lv_iload_n C.1 C.2.1 dX1_weigh_107 rfl (lv_at hl 2 rfl) ?_
              refine lv_aload_n C.1 C.2.1 dX1_weigh_108 rfl (lv_at hl 3 rfl) ?_
              refine zg1_8 C hH (zChart_n0 hC) (zChart_k0 hC) q_411 (zChart_r13 hC) dX1_weigh_109 ?_
              refine lv_iload C.1 C.2.1 dX1_weigh_112 (lv_at hl 1 rfl) ?_
              obtain ⟨o26, hF⟩ := hF
              refine zd_lald C hH (zChart_n13 hC) (zChart_k13 hC) o26.1 (by rw [zChart_l13 hC]; exact o26.2) (by rw [zChart_l13 hC]; decide) dX1_weigh_114 ?_
              refine lv_aload_n C.1 C.2.1 dX1_weigh_115 rfl (lv_at hl 3 rfl) ?_
              refine zg1_7 C hH (zChart_n0 hC) (zChart_k0 hC) q_409 (zChart_r12 hC) dX1_weigh_116 ?_
              refine lv_iload_n C.1 C.2.1 dX1_weigh_119 rfl (lv_at hl 2 rfl) ?_
              obtain ⟨o27, hF⟩ := hF
              refine zd_lald C hH (zChart_n12 hC) (zChart_k12 hC) o27.1 (by rw [zChart_l12 hC]; exact o27.2) (by rw [zChart_l12 hC]; decide) dX1_weigh_120 ?_
              refine zd_ladd C dX1_weigh_121 ?_
              obtain ⟨o28, hF⟩ := hF
              obtain ⟨o29, hF⟩ := hF
              refine zd_last C hH hS (zChart_n13 hC) (zChart_k13 hC) o28.1 (by rw [zChart_l13 hC]; exact o28.2) (by rw [zChart_l13 hC]; decide) o29 dX1_weigh_122 (fun H locs hH hS => ?_)
              obtain ⟨Y30, eY30⟩ : ∃ z, z = zU Y25 (i + 13) (k) ((Y25 (i + 13) (X (i + 9) (k))) + (Y25 (i + 12) (k))) := ⟨_, rfl⟩
              rw [← eY30] at hH
              have hF := hF Y30 eY30 hH.2.2.2
              refine zd_iinc (k := 2) (lv' := [(3, .int (zI (k + 1))), (5, .int (zI (0))), (4, .int (zI (X (i + 9) (k)))), (0, .ref (bs + (i))), (1, .ref (bs + (j))), (2, .int (zI (b)))]) C hl rfl dX1_weigh_123 (by decide) rfl (fun ls hl => ?_)
              refine lv_goto (tgt := 29) C.1 C.2.1 dX1_weigh_126 (by decide) ?_
              obtain ⟨o31, hF⟩ := hF
              exact ih4 (k + 1) Y30 o31 hF.1 (Nat.lt_of_lt_of_le hF.2 (Nat.le_of_lt_succ hmu4)) _ _ _ hH hS (lv_sub hl [0, 3, 4, 5] rfl)
            · exact absurd (by decide) c22
          · have hF := hF.2 c21
            refine zd_iconst C dX1_weigh_60 ?_
            refine lv_goto (tgt := 65) C.1 C.2.1 dX1_weigh_61 (by decide) ?_
            refine lv_istore (lv' := [(5, .int (zI (1))), (4, .int (zI (X (i + 9) (k)))), (3, .int (zI (k))), (0, .ref (bs + (i))), (1, .ref (bs + (j))), (2, .int (zI (b)))]) C.1 C.2.1 dX1_weigh_65 hl (by decide) rfl (fun ls hl => ?_)
            refine lv_aload_n C.1 C.2.1 dX1_weigh_67 rfl (lv_at hl 3 rfl) ?_
            refine zg1_7 C hH (zChart_n0 hC) (zChart_k0 hC) q_409 (zChart_r12 hC) dX1_weigh_68 ?_
            refine lv_iload_n C.1 C.2.1 dX1_weigh_71 rfl (lv_at hl 2 rfl) ?_
            refine lv_iload C.1 C.2.1 dX1_weigh_72 (lv_at hl 0 rfl) ?_
            refine zd_if_eq C (by decide) 95 dX1_weigh_74 (by decide) (fun c32 => ?_) (fun c32 => ?_)
            · exact absurd c32 (by decide)
            · refine lv_aload_n C.1 C.2.1 dX1_weigh_77 rfl (lv_at hl 3 rfl) ?_
              refine lv_iload C.1 C.2.1 dX1_weigh_78 (lv_at hl 1 rfl) ?_
              refine lv_aload_n C.1 C.2.1 dX1_weigh_80 rfl (lv_at hl 3 rfl) ?_
              refine lv_iload C.1 C.2.1 dX1_weigh_81 (lv_at hl 1 rfl) ?_
              refine lv_iload_n C.1 C.2.1 dX1_weigh_83 rfl (lv_at hl 5 rfl) ?_
              refine zd_iconst C dX1_weigh_84 ?_
              refine zd_isub C dX1_weigh_85 ?_
              obtain ⟨o33, hF⟩ := hF
              obtain ⟨o34, hF⟩ := hF
              refine zgoi (zrunV (As := [.int (zI (X (i + 9) (k))), .int (zI (b - 1))]) (rest := [.int (zI (X (i + 9) (k))), .ref (bs + (i)), .int (zI (k)), .ref (bs + (i + 12))]) C hE hH hS hl.1 (c_X1_ahead (l := l) hC (X (i + 9) (k)) (hH.2.2.1 _ _) (b - 1) o33 o34) k_RX1_76 ⟨Nat.le_of_ble_eq_true rfl, Nat.le_of_ble_eq_true rfl⟩ (zChart_n0 hC) (zChart_k0 hC) rfl rfl rfl (Nat.le_of_ble_eq_true rfl) dX1_weigh_86 ⟨Nat.zero_le _, Nat.zero_le _⟩) hS (fun rq Xq Yq Rq H locs hrq hq hH hS => ?_)
              obtain ⟨h91, h92⟩ := hq
              have h93 : Xq = X := congrArg (fun z => z.1) h92
              have h94 : Yq = Y5 := congrArg (fun z => z.2.1) h92
              have h95 : Rq = R1 := congrArg (fun z => z.2.2) h92
              rw [h93, h94, h95] at hH
              subst h91
              have hr35 := hrq
              have hF := hF hr35
              obtain ⟨o36, hF⟩ := hF
              refine zgol (zrunV (As := [.int (zI (X (i + 9) (k))), .int (zI (aN (rP Z q) ((X (i + 9) (k))).toNat ((b - 1)).toNat))]) (rest := [.int (zI (k)), .ref (bs + (i + 12))]) C hE hH hS hl.1 (c_X1_turned (l := l) hC (X (i + 9) (k)) (hH.2.2.1 _ _) (aN (rP Z q) ((X (i + 9) (k))).toNat ((b - 1)).toNat) hr35 o36) k_RX1_79 ⟨Nat.le_of_ble_eq_true rfl, Nat.le_of_ble_eq_true rfl⟩ (zChart_n0 hC) (zChart_k0 hC) rfl rfl rfl (Nat.le_of_ble_eq_true rfl) dX1_weigh_89 ⟨Nat.zero_le _, Nat.zero_le _⟩) hS (fun rq Xq Yq Rq H locs hrq hq hH hS => ?_)
              obtain ⟨h91, h92⟩ := hq
              have h93 : Xq = X := congrArg (fun z => z.1) h92
              have h94 : Yq = Y5 := congrArg (fun z => z.2.1) h92
              have h95 : Rq = R1 := congrArg (fun z => z.2.2) h92
              rw [h93, h94, h95] at hH
              subst h91
              have hr37 := hrq
              have hF := hF hr37
              refine lv_goto (tgt := 102) C.1 C.2.1 dX1_weigh_92 (by decide) ?_
              obtain ⟨o38, hF⟩ := hF
              have gg3 := hH.2.2.1
              refine zd_last C hH hS (zChart_n12 hC) (zChart_k12 hC) o38.1 (by rw [zChart_l12 hC]; exact o38.2) (by rw [zChart_l12 hC]; decide) hr37 dX1_weigh_102 (fun H locs hH hS => ?_)
              obtain ⟨Y39, eY39⟩ : ∃ z, z = zU Y5 (i + 12) (k) (trE X Y5 R1 i ((X (i + 9) (k))) ((aN (rP Z q) ((X (i + 9) (k))).toNat ((b - 1)).toNat))) := ⟨_, rfl⟩
              rw [← eY39] at hH
              have hF := hF Y39 eY39 hH.2.2.2
              refine lv_aload_n C.1 C.2.1 dX1_weigh_103 rfl (lv_at hl 3 rfl) ?_
              refine zg1_8 C hH (zChart_n0 hC) (zChart_k0 hC) q_411 (zChart_r13 hC) dX1_weigh_104 ?_
              refine lv_iload_n C.1 C.2.1 dX1_weigh_107 rfl (lv_at hl 2 rfl) ?_
              refine lv_aload_n C.1 C.2.1 dX1_weigh_108 rfl (lv_at hl 3 rfl) ?_
              refine zg1_8 C hH (zChart_n0 hC) (zChart_k0 hC) q_411 (zChart_r13 hC) dX1_weigh_109 ?_
              refine lv_iload C.1 C.2.1 dX1_weigh_112 (lv_at hl 1 rfl) ?_
              obtain ⟨o40, hF⟩ := hF
              refine zd_lald C hH (zChart_n13 hC) (zChart_k13 hC) o40.1 (by rw [zChart_l13 hC]; exact o40.2) (by rw [zChart_l13 hC]; decide) dX1_weigh_114 ?_
              refine lv_aload_n C.1 C.2.1 dX1_weigh_115 rfl (lv_at hl 3 rfl) ?_
              refine zg1_7 C hH (zChart_n0 hC) (zChart_k0 hC) q_409 (zChart_r12 hC) dX1_weigh_116 ?_
              refine lv_iload_n C.1 C.2.1 dX1_weigh_119 rfl (lv_at hl 2 rfl) ?_
              obtain ⟨o41, hF⟩ := hF
              refine zd_lald C hH (zChart_n12 hC) (zChart_k12 hC) o41.1 (by rw [zChart_l12 hC]; exact o41.2) (by rw [zChart_l12 hC]; decide) dX1_weigh_120 ?_
              refine zd_ladd C dX1_weigh_121 ?_
              obtain ⟨o42, hF⟩ := hF
              obtain ⟨o43, hF⟩ := hF
              refine zd_last C hH hS (zChart_n13 hC) (zChart_k13 hC) o42.1 (by rw [zChart_l13 hC]; exact o42.2) (by rw [zChart_l13 hC]; decide) o43 dX1_weigh_122 (fun H locs hH hS => ?_)
              obtain ⟨Y44, eY44⟩ : ∃ z, z = zU Y39 (i + 13) (k) ((Y39 (i + 13) (X (i + 9) (k))) + (Y39 (i + 12) (k))) := ⟨_, rfl⟩
              rw [← eY44] at hH
              have hF := hF Y44 eY44 hH.2.2.2
              refine zd_iinc (k := 2) (lv' := [(3, .int (zI (k + 1))), (5, .int (zI (1))), (4, .int (zI (X (i + 9) (k)))), (0, .ref (bs + (i))), (1, .ref (bs + (j))), (2, .int (zI (b)))]) C hl rfl dX1_weigh_123 (by decide) rfl (fun ls hl => ?_)
              refine lv_goto (tgt := 29) C.1 C.2.1 dX1_weigh_126 (by decide) ?_
              obtain ⟨o45, hF⟩ := hF
              exact ih4 (k + 1) Y44 o45 hF.1 (Nat.lt_of_lt_of_le hF.2 (Nat.le_of_lt_succ hmu4)) _ _ _ hH hS (lv_sub hl [0, 3, 4, 5] rfl)
  exact L4 (((20 - ((1 : Int))).toNat) + 1) ((1 : Int)) Y3 (by decide) hI4 (Nat.lt_succ_self _) _ _ _ hH hS (lv_sub hl [0, 1, 2, 3] rfl)
theorem v_X1_weigh {X Y : Nat → Int → Int} {R : Nat → Int → Option Nat} {i : Nat} {Z : Nat → Int → Int} {q : Nat} {j : Nat} (b : Int) (hb : rI b) (hp : (dR Z q X R i ∧ vN Z q) ∧ (nR Z q X j ∧ j + 1 < i) ∧ b = Z q 30) : F_X1_weigh i Z q j X Y R b := by
  unfold F_X1_weigh
  intro hX hY
  obtain ⟨⟨hd, hvn⟩, ⟨hnr, hj⟩, hst⟩ := hp
  have hv := hd.1.1
  obtain ⟨e27, n1, n15⟩ := vZ_n hv
  have hb27 := hd.2.1
  have h30 := hvn.1.2.1
  intro R1
  intro eR1
  have hcn : cn R1 i = j := by
    unfold cn
    rw [eR1, zU_s]
    rfl
  have hcb : cb R1 i = cb R i := by
    unfold cb
    rw [eR1, zU_n (by omega)]
  intro Y2
  intro eY2
  intro rY2
  intro Y3
  intro eY3
  intro rY3
  refine ⟨?_, ?_⟩
  · refine ⟨by omega, fun z a b => by rw [eY3, zU_o b, eY2, zU_o a], fun k hk => ?_⟩
    have e0 : k = 0 := by omega
    subst e0
    rw [eY3, zU_o (show i + 12 ≠ i + 13 by omega), zU_up, eY2, zU_up]
    unfold upI
    rw [show ((0 : Nat) : Int) = 0 from rfl, if_pos rfl, if_pos rfl, hnr.2.1]
    exact ⟨pr_0.symm, pr_0.symm⟩
  intro k Y5
  intro _
  intro rY5
  intro h1
  obtain ⟨⟨k1, k2⟩, fo, fw⟩ := h1
  obtain ⟨kn, rfl⟩ := nat_of (show 0 ≤ k by omega)
  refine ⟨?_, ?_⟩
  · intro c1
    exact ⟨eR1, by rw [show Z q 27 = kn by omega]; exact fw, fo⟩
  intro c2
  have kl : (kn : Int) < Z q 27 := by omega
  have hpk := vZ_P hv (show 1 ≤ kn by omega) kl
  have hx := (hd.2.2.2 kn kl).1 (by omega)
  have hh := (hd.2.2.2 kn kl).2.2
  have hw5 := fw (rP Z q kn) (by omega)
  have bk := rW_b hv hvn kn kl
  have bp := rW_b hv hvn (rP Z q kn) (by omega)
  refine ⟨?_, ?_⟩
  · first | omega | exact ⟨by omega, by omega⟩ | decide | assumption | exact ⟨by omega, by omega, by omega⟩ | exact ⟨by decide, by decide⟩
  refine ⟨?_, ?_⟩
  · intro c3
    omega
  intro c4
  refine ⟨?_, ?_⟩
  · first | omega | exact ⟨by omega, by omega⟩ | decide | assumption | exact ⟨by omega, by omega, by omega⟩ | exact ⟨by decide, by decide⟩
  refine ⟨?_, ?_⟩
  · first | omega | exact ⟨by omega, by omega⟩ | decide | assumption | exact ⟨by omega, by omega, by omega⟩ | exact ⟨by decide, by decide⟩
  refine ⟨?_, ?_⟩
  · intro c5
    have hw9 : Y5 (i + 12) (X (i + 9) kn) = rW Z q kn := by
      rw [hx, hw5.1, rW_s hpk, if_pos]
      intro g
      apply c5
      rw [hh, show b = ((b.toNat : Nat) : Int) by omega, tmod_nat, hst, g]
      rfl
    refine ⟨?_, ?_⟩
    · rw [hx]
      omega
    refine ⟨?_, ?_⟩
    · first | omega | exact ⟨by omega, by omega⟩ | decide | assumption | exact ⟨by omega, by omega, by omega⟩ | exact ⟨by decide, by decide⟩
    intro Y25
    intro eY25
    have hs9 : Y25 (i + 13) (X (i + 9) kn) + Y25 (i + 12) kn = rG Z q (rP Z q kn) + rW Z q kn := by
      rw [eY25, zU_s, zU_o (show i + 13 ≠ i + 12 by omega), hw9, hx, hw5.2]
    intro rY25
    refine ⟨?_, ?_⟩
    · rw [hx]
      omega
    refine ⟨?_, ?_⟩
    · first | omega | exact ⟨by omega, by omega⟩ | decide | assumption | exact ⟨by omega, by omega, by omega⟩ | exact ⟨by decide, by decide⟩
    refine ⟨?_, ?_⟩
    · first | omega | exact ⟨by omega, by omega⟩ | decide | assumption | exact ⟨by omega, by omega, by omega⟩ | exact ⟨by decide, by decide⟩
    refine ⟨?_, ?_⟩
    · rw [hs9, ← rG_s hpk]
      exact ⟨by omega, by omega⟩
    intro Y30
    intro eY30
    intro rY30
    refine ⟨?_, ?_⟩
    · first | omega | exact ⟨by omega, by omega⟩ | decide | assumption | exact ⟨by omega, by omega, by omega⟩ | exact ⟨by decide, by decide⟩
    refine ⟨?_, ?_⟩
    · exact ⟨by omega, fun z a b => by rw [eY30, zU_o b, eY25, zU_o a]; exact fo z a b, by
        have e2 : Y30 = zU (zU Y5 (i + 12) kn (Y5 (i + 12) (X (i + 9) kn))) (i + 13) kn (Y25 (i + 13) (X (i + 9) kn) + Y25 (i + 12) kn) := by rw [eY30, eY25]
        exact wR_s fw e2 hw9 (by rw [hs9, rG_s hpk])⟩
    first | omega | exact ⟨by omega, by omega⟩ | decide | assumption | exact ⟨by omega, by omega, by omega⟩ | exact ⟨by decide, by decide⟩
  intro c6
  have c6 := Classical.not_not.mp c6
  have hm : sHg (rP Z q) kn % (Z q 30).toNat = 0 := by
    rw [hh, show b = ((b.toNat : Nat) : Int) by omega, tmod_nat, hst] at c6
    exact Int.ofNat.inj c6
  have hl := mod_le hm (by rw [sHg_s hpk]; omega)
  have ha := aN_h (vZ_p hv) (show rP Z q kn ≤ (Z q 27 - 1).toNat by omega) ((Z q 30).toNat - 1) (by rw [sHg_s hpk] at hl; omega)
  have hb9 := aN_b (vZ_p hv) (show rP Z q kn ≤ (Z q 27 - 1).toNat by omega) ((Z q 30).toNat - 1)
  have eA : aN (rP Z q) (X (i + 9) kn).toNat (b - 1).toNat = aN (rP Z q) (rP Z q kn) ((Z q 30).toNat - 1) := by
    rw [hx, show (b - 1).toNat = (Z q 30).toNat - 1 by omega]
    rfl
  have hb2 : aN (rP Z q) (rP Z q kn) ((Z q 30).toNat - 1) ≤ rP Z q kn := hb9.2
  have hw9 : trE X Y5 R1 i (X (i + 9) kn) (aN (rP Z q) (X (i + 9) kn).toNat (b - 1).toNat) = rW Z q kn := by
    unfold trE
    rw [eA, hcn, hcb, hnr.1, if_neg (by omega), hx, hw5.1, (bR_t hv hd.2.2.1.1 (z := (rP Z q kn : Int)) (by omega) (by omega)).1, (bR_t hv hd.2.2.1.1 ha.1 (by omega)).1, rW_s hpk, if_neg (fun g => g hm)]
    rfl
  refine ⟨?_, ?_⟩
  · first | omega | exact ⟨by omega, by omega⟩ | decide | assumption | exact ⟨by omega, by omega, by omega⟩ | exact ⟨by decide, by decide⟩
  refine ⟨?_, ?_⟩
  · refine ⟨?_, by rw [hx]; omega⟩
    unfold dR
    rw [hcb]
    exact hd
  intro _
  refine ⟨?_, ?_⟩
  · rw [eA, hcn, hcb, hnr.1, hx, hw5.1]
    refine ⟨by omega, by omega, by omega, hvn.1.2.2.1, fun z z0 z1 => ?_⟩
    rcases z1 with z1 | z1
    · have g := bR_t hv hd.2.2.1.1 (z := z) z0 (by omega)
      rw [g.1]
      exact g.2
    · have g := bR_t hv hd.2.2.1.1 (z := z) z0 (by omega)
      rw [g.1]
      exact g.2
  intro _
  refine ⟨?_, ?_⟩
  · first | omega | exact ⟨by omega, by omega⟩ | decide | assumption | exact ⟨by omega, by omega, by omega⟩ | exact ⟨by decide, by decide⟩
  intro Y39
  intro eY39
  have hs9 : Y39 (i + 13) (X (i + 9) kn) + Y39 (i + 12) kn = rG Z q (rP Z q kn) + rW Z q kn := by
    rw [eY39, zU_s, zU_o (show i + 13 ≠ i + 12 by omega), hw9, hx, hw5.2]
  intro rY39
  refine ⟨?_, ?_⟩
  · rw [hx]
    omega
  refine ⟨?_, ?_⟩
  · first | omega | exact ⟨by omega, by omega⟩ | decide | assumption | exact ⟨by omega, by omega, by omega⟩ | exact ⟨by decide, by decide⟩
  refine ⟨?_, ?_⟩
  · first | omega | exact ⟨by omega, by omega⟩ | decide | assumption | exact ⟨by omega, by omega, by omega⟩ | exact ⟨by decide, by decide⟩
  refine ⟨?_, ?_⟩
  · rw [hs9, ← rG_s hpk]
    exact ⟨by omega, by omega⟩
  intro Y44
  intro eY44
  intro rY44
  refine ⟨?_, ?_⟩
  · first | omega | exact ⟨by omega, by omega⟩ | decide | assumption | exact ⟨by omega, by omega, by omega⟩ | exact ⟨by decide, by decide⟩
  refine ⟨?_, ?_⟩
  · exact ⟨by omega, fun z a b => by rw [eY44, zU_o b, eY39, zU_o a]; exact fo z a b, by
      have e2 : Y44 = zU (zU Y5 (i + 12) kn (trE X Y5 R1 i (X (i + 9) kn) (aN (rP Z q) (X (i + 9) kn).toNat (b - 1).toNat))) (i + 13) kn (Y39 (i + 13) (X (i + 9) kn) + Y39 (i + 12) kn) := by rw [eY44, eY39]
      exact wR_s fw e2 hw9 (by rw [hs9, rG_s hpk])⟩
  first | omega | exact ⟨by omega, by omega⟩ | decide | assumption | exact ⟨by omega, by omega, by omega⟩ | exact ⟨by decide, by decide⟩
theorem c_X1_weigh {l : Launch} {D : va_G} {cy : Nat → ClassId} {bs N : Nat} {sa : Nat → Nat} {kd len : Nat → Nat} {X Y : Nat → Int → Int} {R : Nat → Int → Option Nat} {i : Nat} {Z : Nat → Int → Int} {q : Nat} (hC : zChart N kd len R i) {j : Nat} (hn : zNet N kd len R j) (b : Int) (hb : rI b) (hp : (dR Z q X R i ∧ vN Z q) ∧ (nR Z q X j ∧ j + 1 < i) ∧ b = Z q 30) : Met l yX1_weigh (.code yX1_weigh cX1_weigh 6 none :: zTB) (zRm 2 85) (zPc D cy bs sa N kd len X Y R [.ref (bs + (i)), .ref (bs + (j)), .int (zI (b))]) (zQv D cy bs N kd len (fun st => st.1 = X ∧ ((st.2.2 = zU R i 0 (some j)) ∧ wR Z q (st.2.1) i (Z q 27) ∧ ∀ z, z ≠ i + 12 → z ≠ i + 13 → (st.2.1) z = Y z))) 0 0 (zA bs) := w_X1_weigh hC hn b hb (v_X1_weigh b hb hp)
