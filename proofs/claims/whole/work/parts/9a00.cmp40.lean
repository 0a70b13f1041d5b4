/-! CHANCES -/
abbrev cX10_power : ByteArray := prog_1_method_43_code
def yX10_power : MethodName := ⟨RX10, "power", "(JI)J"⟩
theorem dX10_power_0 : decode cX10_power 0 = .ok (.lconst 1, 1) := by decide +kernel
theorem dX10_power_1 : decode cX10_power 1 = .ok (.lstore_n 3, 1) := by decide +kernel
theorem dX10_power_2 : decode cX10_power 2 = .ok (.iconst 0, 1) := by decide +kernel
theorem dX10_power_3 : decode cX10_power 3 = .ok (.istore 5, 2) := by decide +kernel
theorem dX10_power_5 : decode cX10_power 5 = .ok (.iload 5, 2) := by decide +kernel
theorem dX10_power_7 : decode cX10_power 7 = .ok (.iload_n 2, 1) := by decide +kernel
theorem dX10_power_8 : decode cX10_power 8 = .ok (.if_icmp .ge 13, 3) := by decide +kernel
theorem dX10_power_11 : decode cX10_power 11 = .ok (.lload_n 3, 1) := by decide +kernel
theorem dX10_power_12 : decode cX10_power 12 = .ok (.lload_n 0, 1) := by decide +kernel
theorem dX10_power_13 : decode cX10_power 13 = .ok (.lmul, 1) := by decide +kernel
theorem dX10_power_14 : decode cX10_power 14 = .ok (.lstore_n 3, 1) := by decide +kernel
theorem dX10_power_15 : decode cX10_power 15 = .ok (.iinc 5 1, 3) := by decide +kernel
theorem dX10_power_18 : decode cX10_power 18 = .ok (.goto (-13), 3) := by decide +kernel
theorem dX10_power_21 : decode cX10_power 21 = .ok (.lload_n 3, 1) := by decide +kernel
theorem dX10_power_22 : decode cX10_power 22 = .ok (.lreturn, 1) := by decide +kernel
def F_X10_power (X Y : Nat → Int → Int) (R : Nat → Int → Option Nat) (a : Int) (b : Int) : Prop := (∀ i j, rI (X i j)) → (∀ i j, rL (Y i j)) → (∃ t : Nat, (0 : Int) = t ∧ (0 : Int) ≤ b ∧ (1 : Int) = 10 ^ t) ∧ (∀ (u : Int) (k : Int), rL u → rI k → (∃ t : Nat, k = t ∧ k ≤ b ∧ u = 10 ^ t) → (((b ≤ k) → (u = (10 : Int) ^ (b).toNat)) ∧ ((¬ (b ≤ k)) → ((rL ((u) * (a))) ∧ (rI (k + 1)) ∧ (∃ t : Nat, (k + 1) = t ∧ (k + 1) ≤ b ∧ ((u) * (a)) = 10 ^ t) ∧ (((b - (k + 1)).toNat) < ((b - k).toNat))))))
set_option maxHeartbeats 4000000 in
set_option maxRecDepth 100000 in
theorem w_X10_power {l : Launch} {D : va_G} {cy : Nat → ClassId} {bs N : Nat} {sa : Nat → Nat} {kd len : Nat → Nat} {X Y : Nat → Int → Int} {R : Nat → Int → Option Nat}  (a : Int) (ha : rL a) (b : Int) (hb : rI b) (hF : F_X10_power  X Y R a b) : Met l yX10_power (.code yX10_power cX10_power 6 (some .long) :: zTB) (zRm 0 0) (zPc D cy bs sa N kd len X Y R [.long (zL (a)), .int (zI (b))]) (zQl D cy bs N kd len (fun r st => r = (10 : Int) ^ (b).toNat ∧ st = (X, Y, R))) 0 0 (zA bs) := by
  refine zstart (by decide) (Nat.le_of_ble_eq_true rfl) ?_
  intro p e s m args below meth c ls C hE hH hr hlk hnm hl hargs
  have hF := hF hH.2.2.1 hH.2.2.2
  have hS : va_S (zA bs) s.heap s.heap [] := va_S.rf
  have hl : lv_has ls 6 [(0, .long (zL (a))), (2, .int (zI (b)))] := hl
  refine lv_lconst (v := zL 1) C.1 C.2.1 dX10_power_0 rfl ?_
  refine lv_lstore_n (lv' := [(3, .long (zL (1))), (0, .long (zL (a))), (2, .int (zI (b)))]) C.1 C.2.1 dX10_power_1 rfl hl (by decide) rfl (fun ls hl => ?_)
  refine zd_iconst C dX10_power_2 ?_
  refine lv_istore (lv' := [(5, .int (zI (0))), (3, .long (zL (1))), (0, .long (zL (a))), (2, .int (zI (b)))]) C.1 C.2.1 dX10_power_3 hl (by decide) rfl (fun ls hl => ?_)
  obtain ⟨hI1, hF⟩ := hF
  have L1 : ∀ (fu : Nat) (u : Int) (k : Int), rL u → rI k → (∃ t : Nat, k = t ∧ k ≤ b ∧ u = 10 ^ t) → ((b - k).toNat) < fu → ∀ (H : Heap) (locs : List Loc) (ls : Array Slot), zH D cy bs N kd len X Y R H → va_S (zA bs) s.heap H locs → lv_has ls 6 [(3, .long (zL (u))), (5, .int (zI (k))), (0, .long (zL (a))), (2, .int (zI (b)))] → W p l e (zRm 0 0) s m args below meth c H locs 0 0 (MQ below (zQl D cy bs N kd len (fun r st => r = (10 : Int) ^ (b).toNat ∧ st = (X, Y, R))) args s 0 0 (zA bs)) (F0 m 5 ls []) := by
    intro fu
    induction fu with
    | zero => intro u k _ _ _ hmu; exact absurd hmu (Nat.not_lt_zero _)
    | succ fu ih1 =>
      intro u k hu hk hI hmu1 H locs ls hH hS hl
      have hF := hF u k hu hk  hI
      refine lv_iload C.1 C.2.1 dX10_power_5 (lv_at hl 1 rfl) ?_
      refine lv_iload_n C.1 C.2.1 dX10_power_7 rfl (lv_at hl 3 rfl) ?_
      refine zd_icmp_ge C hk hb 21 dX10_power_8 (by decide) (fun c2 => ?_) (fun c2 => ?_)
      · have hF := hF.1 c2
        refine lv_lload_n C.1 C.2.1 dX10_power_21 rfl (lv_at hl 0 rfl) ?_
        exact zd_lret C hr hlk hH hS hu (⟨hF, rfl⟩) dX10_power_22
      · have hF := hF.2 c2
        refine lv_lload_n C.1 C.2.1 dX10_power_11 rfl (lv_at hl 0 rfl) ?_
        refine lv_lload_n C.1 C.2.1 dX10_power_12 rfl (lv_at hl 2 rfl) ?_
        refine zd_lmul C dX10_power_13 ?_
        refine lv_lstore_n (lv' := [(3, .long (zL ((u) * (a)))), (5, .int (zI (k))), (0, .long (zL (a))), (2, .int (zI (b)))]) C.1 C.2.1 dX10_power_14 rfl hl (by decide) rfl (fun ls hl => ?_)
        refine zd_iinc (k := 1) (lv' := [(5, .int (zI (k + 1))), (3, .long (zL ((u) * (a)))), (0, .long (zL (a))), (2, .int (zI (b)))]) C hl rfl dX10_power_15 (by decide) rfl (fun ls hl => ?_)
        refine lv_goto (tgt := 5) C.1 C.2.1 dX10_power_18 (by decide) ?_
        obtain ⟨o3, hF⟩ := hF
        obtain ⟨o4, hF⟩ := hF
        exact ih1 ((u) * (a)) (k + 1) o3 o4 hF.1 (Nat.lt_of_lt_of_le hF.2 (Nat.le_of_lt_succ hmu1)) _ _ _ hH hS (lv_sub hl [1, 0, 2, 3] rfl)
  exact L1 (((b - (0 : Int)).toNat) + 1) ((1 : Int)) ((0 : Int)) (by decide) (by decide) hI1 (Nat.lt_succ_self _) _ _ _ hH hS (lv_sub hl [1, 0, 2, 3] rfl)
theorem v_X10_power {X Y : Nat → Int → Int} {R : Nat → Int → Option Nat}  (a : Int) (ha : rL a) (b : Int) (hb : rI b) (hp : a = 10 ∧ 0 ≤ b ∧ b ≤ 12) : F_X10_power  X Y R a b := by
  unfold F_X10_power
  intro hX hY
  obtain ⟨h10, h0, h12⟩ := hp
  subst h10
  refine ⟨?_, ?_⟩
  · exact ⟨0, rfl, h0, rfl⟩
  intro u k
  intro _
  intro _
  intro h1
  obtain ⟨t, ht, tb, hu⟩ := h1
  subst ht
  have pt := p10 t (by omega)
  rw [← hu] at pt
  refine ⟨?_, ?_⟩
  · intro c1
    rw [hu, show t = b.toNat by omega]
  intro c2
  have pt1 := p10 (t + 1) (by omega)
  have es : (10 : Int) ^ (t + 1) = u * 10 := by rw [Int.pow_succ, hu]
  refine ⟨?_, ?_⟩
  · first | omega | exact ⟨by omega, by omega⟩ | decide | assumption | exact ⟨by omega, by omega, by omega⟩ | exact ⟨by decide, by decide⟩
  refine ⟨?_, ?_⟩
  · first | omega | exact ⟨by omega, by omega⟩ | decide | assumption | exact ⟨by omega, by omega, by omega⟩ | exact ⟨by decide, by decide⟩
  refine ⟨?_, ?_⟩
  · exact ⟨t + 1, rfl, by omega, es.symm⟩
  first | omega | exact ⟨by omega, by omega⟩ | decide | assumption | exact ⟨by omega, by omega, by omega⟩ | exact ⟨by decide, by decide⟩
theorem c_X10_power {l : Launch} {D : va_G} {cy : Nat → ClassId} {bs N : Nat} {sa : Nat → Nat} {kd len : Nat → Nat} {X Y : Nat → Int → Int} {R : Nat → Int → Option Nat}  (a : Int) (ha : rL a) (b : Int) (hb : rI b) (hp : a = 10 ∧ 0 ≤ b ∧ b ≤ 12) : Met l yX10_power (.code yX10_power cX10_power 6 (some .long) :: zTB) (zRm 0 0) (zPc D cy bs sa N kd len X Y R [.long (zL (a)), .int (zI (b))]) (zQl D cy bs N kd len (fun r st => r = (10 : Int) ^ (b).toNat ∧ st = (X, Y, R))) 0 0 (zA bs) := w_X10_power  a ha b hb (v_X10_power a ha b hb hp)
abbrev cX10_chance : ByteArray := prog_1_method_40_code
def yX10_chance : MethodName := ⟨RX10, "chance", "(IIIZ)J"⟩
theorem dX10_chance_0 : decode cX10_chance 0 = .ok (.iload_n 1, 1) := by decide +kernel
theorem dX10_chance_1 : decode cX10_chance 1 = .ok (.ifCond .lt 29, 3) := by decide +kernel
theorem dX10_chance_4 : decode cX10_chance 4 = .ok (.iload_n 1, 1) := by decide +kernel
theorem dX10_chance_5 : decode cX10_chance 5 = .ok (.bipush 10, 2) := by decide +kernel
theorem dX10_chance_7 : decode cX10_chance 7 = .ok (.if_icmp .gt 23, 3) := by decide +kernel
theorem dX10_chance_10 : decode cX10_chance 10 = .ok (.iload_n 2, 1) := by decide +kernel
theorem dX10_chance_11 : decode cX10_chance 11 = .ok (.ifCond .lt 19, 3) := by decide +kernel
theorem dX10_chance_14 : decode cX10_chance 14 = .ok (.iload_n 2, 1) := by decide +kernel
theorem dX10_chance_15 : decode cX10_chance 15 = .ok (.bipush 6, 2) := by decide +kernel
theorem dX10_chance_17 : decode cX10_chance 17 = .ok (.if_icmp .gt 13, 3) := by decide +kernel
theorem dX10_chance_20 : decode cX10_chance 20 = .ok (.iload_n 3, 1) := by decide +kernel
theorem dX10_chance_21 : decode cX10_chance 21 = .ok (.ifCond .lt 9, 3) := by decide +kernel
theorem dX10_chance_24 : decode cX10_chance 24 = .ok (.iload_n 3, 1) := by decide +kernel
theorem dX10_chance_25 : decode cX10_chance 25 = .ok (.bipush 12, 2) := by decide +kernel
theorem dX10_chance_27 : decode cX10_chance 27 = .ok (.if_icmp .le 7, 3) := by decide +kernel
theorem dX10_chance_30 : decode cX10_chance 30 = .ok (.ldc2_w 286, 3) := by decide +kernel
theorem dX10_chance_33 : decode cX10_chance 33 = .ok (.lreturn, 1) := by decide +kernel
theorem dX10_chance_34 : decode cX10_chance 34 = .ok (.iload_n 2, 1) := by decide +kernel
theorem dX10_chance_35 : decode cX10_chance 35 = .ok (.iload_n 3, 1) := by decide +kernel
theorem dX10_chance_36 : decode cX10_chance 36 = .ok (.iload_n 1, 1) := by decide +kernel
theorem dX10_chance_37 : decode cX10_chance 37 = .ok (.bipush 10, 2) := by decide +kernel
theorem dX10_chance_39 : decode cX10_chance 39 = .ok (.iload_n 1, 1) := by decide +kernel
theorem dX10_chance_40 : decode cX10_chance 40 = .ok (.isub, 1) := by decide +kernel
theorem dX10_chance_41 : decode cX10_chance 41 = .ok (.invokestatic 422, 3) := by decide +kernel
theorem dX10_chance_44 : decode cX10_chance 44 = .ok (.ldc2_w 426, 3) := by decide +kernel
theorem dX10_chance_47 : decode cX10_chance 47 = .ok (.iload_n 3, 1) := by decide +kernel
theorem dX10_chance_48 : decode cX10_chance 48 = .ok (.invokestatic 428, 3) := by decide +kernel
theorem dX10_chance_51 : decode cX10_chance 51 = .ok (.iload 4, 2) := by decide +kernel
theorem dX10_chance_53 : decode cX10_chance 53 = .ok (.invokestatic 340, 3) := by decide +kernel
theorem dX10_chance_56 : decode cX10_chance 56 = .ok (.lreturn, 1) := by decide +kernel
def F_X10_chanceE (i : Nat) (X Y : Nat → Int → Int) (R : Nat → Int → Option Nat) (a : Int) (b : Int) (g : Int) (d : Bool) : Prop := (∀ i j, rI (X i j)) → (∀ i j, rL (Y i j)) → ((a < 0) → ((-1) = rChance (a) (b) (g) d)) ∧ ((¬ (a < 0)) → (((10 < a) → ((-1) = rChance (a) (b) (g) d)) ∧ ((¬ (10 < a)) → (((b < 0) → ((-1) = rChance (a) (b) (g) d)) ∧ ((¬ (b < 0)) → (((6 < b) → ((-1) = rChance (a) (b) (g) d)) ∧ ((¬ (6 < b)) → (((g < 0) → ((-1) = rChance (a) (b) (g) d)) ∧ ((¬ (g < 0)) → (((g ≤ 12) → ((False) ∧ (True))) ∧ ((¬ (g ≤ 12)) → ((-1) = rChance (a) (b) (g) d))))))))))))
set_option maxHeartbeats 4000000 in
set_option maxRecDepth 100000 in
theorem w_X10_chanceE {l : Launch} {D : va_G} {cy : Nat → ClassId} {bs N : Nat} {sa : Nat → Nat} {kd len : Nat → Nat} {X Y : Nat → Int → Int} {R : Nat → Int → Option Nat} {i : Nat} (hi : i < N) (hk : kd i = 10) (a : Int) (ha : rI a) (b : Int) (hb : rI b) (g : Int) (hg : rI g) (d : Bool) (hF : F_X10_chanceE i X Y R a b g d) : Met l yX10_chance (.code yX10_chance cX10_chance 5 (some .long) :: zTB) (zRm 0 0) (zPc D cy bs sa N kd len X Y R [.ref (bs + (i)), .int (zI (a)), .int (zI (b)), .int (zI (g)), .int (zI (bz (d)))]) (zQl D cy bs N kd len (fun r st => st.1 = X ∧ st.2.1 = Y ∧ st.2.2 = R ∧ (r = rChance (a) (b) (g) d))) 0 0 (zA bs) := by
  refine zstart (by decide) (Nat.le_of_ble_eq_true rfl) ?_
  intro p e s m args below meth c ls C hE hH hr hlk hnm hl hargs
  have hF := hF hH.2.2.1 hH.2.2.2
  have hS : va_S (zA bs) s.heap s.heap [] := va_S.rf
  have hl : lv_has ls 5 [(0, .ref (bs + (i))), (1, .int (zI (a))), (2, .int (zI (b))), (3, .int (zI (g))), (4, .int (zI (bz (d))))] := hl
  refine lv_iload_n C.1 C.2.1 dX10_chance_0 rfl (lv_at hl 1 rfl) ?_
  refine zd_if_lt C ha 30 dX10_chance_1 (by decide) (fun c1 => ?_) (fun c1 => ?_)
  · have hF := hF.1 c1
    refine lv_ldc2 (v := zL (-1)) C.1 C.2.1 C.2.2.2.1 (C.2.2.2.2.1 _ q_1048) dX10_chance_30 ?_
    exact zd_lret C hr hlk hH hS (by decide) (⟨rfl, rfl, rfl, hF⟩) dX10_chance_33
  · have hF := hF.2 c1
    refine lv_iload_n C.1 C.2.1 dX10_chance_4 rfl (lv_at hl 1 rfl) ?_
    refine zd_bipush C (by decide) dX10_chance_5 ?_
    refine zd_icmp_gt C ha (by decide) 30 dX10_chance_7 (by decide) (fun c2 => ?_) (fun c2 => ?_)
    · have hF := hF.1 c2
      refine lv_ldc2 (v := zL (-1)) C.1 C.2.1 C.2.2.2.1 (C.2.2.2.2.1 _ q_1048) dX10_chance_30 ?_
      exact zd_lret C hr hlk hH hS (by decide) (⟨rfl, rfl, rfl, hF⟩) dX10_chance_33
    · have hF := hF.2 c2
      refine lv_iload_n C.1 C.2.1 dX10_chance_10 rfl (lv_at hl 2 rfl) ?_
      refine zd_if_lt C hb 30 dX10_chance_11 (by decide) (fun c3 => ?_) (fun c3 => ?_)
      · have hF := hF.1 c3
        refine lv_ldc2 (v := zL (-1)) C.1 C.2.1 C.2.2.2.1 (C.2.2.2.2.1 _ q_1048) dX10_chance_30 ?_
        exact zd_lret C hr hlk hH hS (by decide) (⟨rfl, rfl, rfl, hF⟩) dX10_chance_33
      · have hF := hF.2 c3
        refine lv_iload_n C.1 C.2.1 dX10_chance_14 rfl (lv_at hl 2 rfl) ?_
        refine zd_bipush C (by decide) dX10_chance_15 ?_
        refine zd_icmp_gt C hb (by decide) 30 dX10_chance_17 (by decide) (fun c4 => ?_) (fun c4 => ?_)
        · have hF := hF.1 c4
          refine lv_ldc2 (v := zL (-1)) C.1 C.2.1 C.2.2.2.1 (C.2.2.2.2.1 _ q_1048) dX10_chance_30 ?_
          exact zd_lret C hr hlk hH hS (by decide) (⟨rfl, rfl, rfl, hF⟩) dX10_chance_33
        · have hF := hF.2 c4
          refine lv_iload_n C.1 C.2.1 dX10_chance_20 rfl (lv_at hl 3 rfl) ?_
          refine zd_if_lt C hg 30 dX10_chance_21 (by decide) (fun c5 => ?_) (fun c5 => ?_)
          · have hF := hF.1 c5
            refine lv_ldc2 (v := zL (-1)) C.1 C.2.1 C.2.2.2.1 (C.2.2.2.2.1 _ q_1048) dX10_chance_30 ?_
            exact zd_lret C hr hlk hH hS (by decide) (⟨rfl, rfl, rfl, hF⟩) dX10_chance_33
          · have hF := hF.2 c5
            refine lv_iload_n C.1 C.2.1 dX10_chance_24 rfl (lv_at hl 3 rfl) ?_
            refine zd_bipush C (by decide) dX10_chance_25 ?_
            refine zd_icmp_le C hg (by decide) 34 dX10_chance_27 (by decide) (fun c6 => ?_) (fun c6 => ?_)
            · have hF := hF.1 c6
              refine lv_iload_n C.1 C.2.1 dX10_chance_34 rfl (lv_at hl 2 rfl) ?_
              refine lv_iload_n C.1 C.2.1 dX10_chance_35 rfl (lv_at hl 3 rfl) ?_
              refine lv_iload_n C.1 C.2.1 dX10_chance_36 rfl (lv_at hl 1 rfl) ?_
              refine zd_bipush C (by decide) dX10_chance_37 ?_
              refine lv_iload_n C.1 C.2.1 dX10_chance_39 rfl (lv_at hl 1 rfl) ?_
              refine zd_isub C dX10_chance_40 ?_
              obtain ⟨o7, hF⟩ := hF
              exact o7.elim
            · have hF := hF.2 c6
              refine lv_ldc2 (v := zL (-1)) C.1 C.2.1 C.2.2.2.1 (C.2.2.2.2.1 _ q_1048) dX10_chance_30 ?_
              exact zd_lret C hr hlk hH hS (by decide) (⟨rfl, rfl, rfl, hF⟩) dX10_chance_33
theorem q_1228 : Cond.static yX10_caught ∈ zTB := zmem 1228 (by decide +kernel) rfl
theorem q_1229 : Cond.code yX10_caught cX10_caught 11 (some .long) ∈ zTB := zmem 1229 (by decide +kernel) rfl
theorem q_1227 : Cond.methodLink RX10 422 yX10_caught ∈ zTB := zmem 1227 (by decide +kernel) rfl
theorem k_RX10_422 : zLs RX10 422 yX10_caught cX10_caught 11 (some .long) 4 := ⟨⟨q_1227, q_1228, q_129, q_1229⟩, ⟨by decide, by decide⟩, by decide +kernel⟩
theorem q_1230 : Cond.constantLong RX10 426 (zL (10)) ∈ zTB := zmem 1230 (by decide +kernel) rfl
theorem q_1232 : Cond.static yX10_power ∈ zTB := zmem 1232 (by decide +kernel) rfl
theorem q_1233 : Cond.code yX10_power cX10_power 6 (some .long) ∈ zTB := zmem 1233 (by decide +kernel) rfl
theorem q_1231 : Cond.methodLink RX10 428 yX10_power ∈ zTB := zmem 1231 (by decide +kernel) rfl
theorem k_RX10_428 : zLs RX10 428 yX10_power cX10_power 6 (some .long) 2 := ⟨⟨q_1231, q_1232, q_129, q_1233⟩, ⟨by decide, by decide⟩, by decide +kernel⟩
def F_X10_chanceG (i N : Nat) (X Y : Nat → Int → Int) (R : Nat → Int → Option Nat) (a : Int) (b : Int) (g : Int) (d : Bool) : Prop := (∀ i j, rI (X i j)) → (∀ i j, rL (Y i j)) → ((a < 0) → ((False) ∧ (True))) ∧ ((¬ (a < 0)) → (((10 < a) → ((False) ∧ (True))) ∧ ((¬ (10 < a)) → (((b < 0) → ((False) ∧ (True))) ∧ ((¬ (b < 0)) → (((6 < b) → ((False) ∧ (True))) ∧ ((¬ (6 < b)) → (((g < 0) → ((False) ∧ (True))) ∧ ((¬ (g < 0)) → (((g ≤ 12) → ((rI (10 - a)) ∧ (((0 ≤ b ∧ b ≤ 6) ∧ (0 ≤ g ∧ g ≤ 12) ∧ 0 ≤ a ∧ 0 ≤ (10 - a) ∧ (a + (10 - a) = 10 ∨ a + (10 - a) = 2)) ∧ (∀ r15 : Int, rL r15 → ∀ Y14 : Nat → Int → Int, (∀ i j, rL (Y14 i j)) → (r15 = fwN (a) (10 - a) (b).toNat (g).toNat 0 ∧ ∀ z, z < N → Y14 z = Y z) → (((10 : Int) = 10 ∧ 0 ≤ g ∧ g ≤ 12) ∧ (rL ((10 : Int) ^ (g).toNat) → (((0 ≤ r15 ∧ r15 ≤ 4000000000000) ∧ 1 ≤ ((10 : Int) ^ (g).toNat) ∧ ((10 : Int) ^ (g).toNat) ≤ 4000000000000) ∧ (rL (mPt (r15) ((10 : Int) ^ (g).toNat) (d)) → (mPt (r15) ((10 : Int) ^ (g).toNat) (d) = rChance (a) (b) (g) d ∧ ∀ z, z < N → Y14 z = Y z))))))))) ∧ ((¬ (g ≤ 12)) → ((False) ∧ (True)))))))))))))
set_option maxHeartbeats 4000000 in
set_option maxRecDepth 100000 in
theorem w_X10_chanceG {l : Launch} {D : va_G} {cy : Nat → ClassId} {bs N : Nat} {sa : Nat → Nat} {kd len : Nat → Nat} {X Y : Nat → Int → Int} {R : Nat → Int → Option Nat} {i : Nat} (hi : i < N) (hk : kd i = 10) (hk14 : kd N = 14) (hl20 : len N = 20) (a : Int) (ha : rI a) (b : Int) (hb : rI b) (g : Int) (hg : rI g) (d : Bool) (hF : F_X10_chanceG i N X Y R a b g d) : Met l yX10_chance (.code yX10_chance cX10_chance 5 (some .long) :: zTB) (zRmG 1 31 1 20) (zPc D cy bs sa N kd len X Y R [.ref (bs + (i)), .int (zI (a)), .int (zI (b)), .int (zI (g)), .int (zI (bz (d)))]) (zQl D cy bs (N + 1) kd len (fun r st => st.1 = X ∧ st.2.2 = R ∧ (r = rChance (a) (b) (g) d ∧ ∀ z, z < N → st.2.1 z = Y z))) 1 20 (zA bs) := by
  refine zstartG (by decide) (Nat.le_of_ble_eq_true rfl) ?_
  intro p e s m args below meth c ls C hE hH hr hlk hnm hl hargs
  have hF := hF hH.2.2.1 hH.2.2.2
  have hS : va_S (zA bs) s.heap s.heap [] := va_S.rf
  have hl : lv_has ls 5 [(0, .ref (bs + (i))), (1, .int (zI (a))), (2, .int (zI (b))), (3, .int (zI (g))), (4, .int (zI (bz (d))))] := hl
  refine lv_iload_n C.1 C.2.1 dX10_chance_0 rfl (lv_at hl 1 rfl) ?_
  refine zd_if_lt C ha 30 dX10_chance_1 (by decide) (fun c1 => ?_) (fun c1 => ?_)
  · have hF := hF.1 c1
    refine lv_ldc2 (v := zL (-1)) C.1 C.2.1 C.2.2.2.1 (C.2.2.2.2.1 _ q_1048) dX10_chance_30 ?_
    obtain ⟨o2, hF⟩ := hF
    exact o2.elim
  · have hF := hF.2 c1
    refine lv_iload_n C.1 C.2.1 dX10_chance_4 rfl (lv_at hl 1 rfl) ?_
    refine zd_bipush C (by decide) dX10_chance_5 ?_
    refine zd_icmp_gt C ha (by decide) 30 dX10_chance_7 (by decide) (fun c3 => ?_) (fun c3 => ?_)
    · have hF := hF.1 c3
      refine lv_ldc2 (v := zL (-1)) C.1 C.2.1 C.2.2.2.1 (C.2.2.2.2.1 _ q_1048) dX10_chance_30 ?_
      obtain ⟨o4, hF⟩ := hF
      exact o4.elim
    · have hF := hF.2 c3
      refine lv_iload_n C.1 C.2.1 dX10_chance_10 rfl (lv_at hl 2 rfl) ?_
      refine zd_if_lt C hb 30 dX10_chance_11 (by decide) (fun c5 => ?_) (fun c5 => ?_)
      · have hF := hF.1 c5
        refine lv_ldc2 (v := zL (-1)) C.1 C.2.1 C.2.2.2.1 (C.2.2.2.2.1 _ q_1048) dX10_chance_30 ?_
        obtain ⟨o6, hF⟩ := hF
        exact o6.elim
      · have hF := hF.2 c5
        refine lv_iload_n C.1 C.2.1 dX10_chance_14 rfl (lv_at hl 2 rfl) ?_
        refine zd_bipush C (by decide) dX10_chance_15 ?_
        refine zd_icmp_gt C hb (by decide) 30 dX10_chance_17 (by decide) (fun c7 => ?_) (fun c7 => ?_)
        · have hF := hF.1 c7
          refine lv_ldc2 (v := zL (-1)) C.1 C.2.1 C.2.2.2.1 (C.2.2.2.2.1 _ q_1048) dX10_chance_30 ?_
          obtain ⟨o8, hF⟩ := hF
          exact o8.elim
        · have hF := hF.2 c7
          refine lv_iload_n C.1 C.2.1 dX10_chance_20 rfl (lv_at hl 3 rfl) ?_
          refine zd_if_lt C hg 30 dX10_chance_21 (by decide) (fun c9 => ?_) (fun c9 => ?_)
          · have hF := hF.1 c9
            refine lv_ldc2 (v := zL (-1)) C.1 C.2.1 C.2.2.2.1 (C.2.2.2.2.1 _ q_1048) dX10_chance_30 ?_
            obtain ⟨o10, hF⟩ := hF
            exact o10.elim
          · have hF := hF.2 c9
            refine lv_iload_n C.1 C.2.1 dX10_chance_24 rfl (lv_at hl 3 rfl) ?_
            refine zd_bipush C (by decide) dX10_chance_25 ?_
            refine zd_icmp_le C hg (by decide) 34 dX10_chance_27 (by decide) (fun c11 => ?_) (fun c11 => ?_)
            · have hF := hF.1 c11
              refine lv_iload_n C.1 C.2.1 dX10_chance_34 rfl (lv_at hl 2 rfl) ?_
              refine lv_iload_n C.1 C.2.1 dX10_chance_35 rfl (lv_at hl 3 rfl) ?_
              refine lv_iload_n C.1 C.2.1 dX10_chance_36 rfl (lv_at hl 1 rfl) ?_
              refine zd_bipush C (by decide) dX10_chance_37 ?_
              refine lv_iload_n C.1 C.2.1 dX10_chance_39 rfl (lv_at hl 1 rfl) ?_
              refine zd_isub C dX10_chance_40 ?_
              obtain ⟨o12, hF⟩ := hF
              obtain ⟨o13, hF⟩ := hF
              refine zgolG (zrunSG (As := [.int (zI (b)), .int (zI (g)), .int (zI (a)), .int (zI (10 - a))]) (rest := []) C hE hH hS hl.1 (c_X10_caught (l := l) hk14 hl20 (b) hb (g) hg (a) ha (10 - a) o12 o13) k_RX10_422 ⟨Nat.le_of_ble_eq_true rfl, Nat.le_of_ble_eq_true rfl⟩ rfl (Nat.le_of_ble_eq_true rfl) dX10_chance_41 ⟨Nat.le_of_ble_eq_true rfl, Nat.le_of_ble_eq_true rfl⟩) hS (fun r15 Xq Y14 Rq H locs hrq hq hH hS => ?_)
              obtain ⟨h9X, h9R, hq⟩ := hq
              dsimp only at h9X h9R
              rw [h9X, h9R] at hH
              have hr15 := hrq
              have hF := hF r15 hrq Y14 hH.2.2.2 hq
              refine lv_ldc2 (v := zL (10)) C.1 C.2.1 C.2.2.2.1 (C.2.2.2.2.1 _ q_1230) dX10_chance_44 ?_
              refine lv_iload_n C.1 C.2.1 dX10_chance_47 rfl (lv_at hl 3 rfl) ?_
              obtain ⟨o16, hF⟩ := hF
              refine zgol (zrunS (As := [.long (zL ((10))), .int (zI (g))]) (rest := [.long (zL (r15))]) C hE hH hS hl.1 (c_X10_power (l := l)  ((10)) (by decide) (g) hg o16) k_RX10_428 ⟨Nat.le_of_ble_eq_true rfl, Nat.le_of_ble_eq_true rfl⟩ rfl (Nat.le_of_ble_eq_true rfl) dX10_chance_48 ⟨Nat.le_of_ble_eq_true rfl, Nat.le_of_ble_eq_true rfl⟩) hS (fun rq Xq Yq Rq H locs hrq hq hH hS => ?_)
              obtain ⟨h91, h92⟩ := hq
              have h93 : Xq = X := congrArg (fun z => z.1) h92
              have h94 : Yq = Y14 := congrArg (fun z => z.2.1) h92
              have h95 : Rq = R := congrArg (fun z => z.2.2) h92
              rw [h93, h94, h95] at hH
              subst h91
              have hr17 := hrq
              have hF := hF hr17
              refine lv_iload C.1 C.2.1 dX10_chance_51 (lv_at hl 4 rfl) ?_
              obtain ⟨o18, hF⟩ := hF
              refine zgol (zrunS (As := [.long (zL (r15)), .long (zL ((10 : Int) ^ (g).toNat)), .int (zI (bz (d)))]) (rest := []) C hE hH hS hl.1 (c_X10_inLeastTerms (l := l)  (r15) hr15 ((10 : Int) ^ (g).toNat) hr17 (d) o18) k_RX10_340 ⟨Nat.le_of_ble_eq_true rfl, Nat.le_of_ble_eq_true rfl⟩ rfl (Nat.le_of_ble_eq_true rfl) dX10_chance_53 ⟨Nat.le_of_ble_eq_true rfl, Nat.le_of_ble_eq_true rfl⟩) hS (fun rq Xq Yq Rq H locs hrq hq hH hS => ?_)
              obtain ⟨h91, h92⟩ := hq
              have h93 : Xq = X := congrArg (fun z => z.1) h92
              have h94 : Yq = Y14 := congrArg (fun z => z.2.1) h92
              have h95 : Rq = R := congrArg (fun z => z.2.2) h92
              rw [h93, h94, h95] at hH
              subst h91
              have hr19 := hrq
              have hF := hF hr19
              refine W_raise (cells := 1) (slots := 20) (Nat.le_of_ble_eq_true rfl) (Nat.le_of_ble_eq_true rfl) ?_
              exact zd_lretG C hr hlk hH hS hr19 (⟨rfl, rfl, hF⟩) dX10_chance_56
            · have hF := hF.2 c11
              refine lv_ldc2 (v := zL (-1)) C.1 C.2.1 C.2.2.2.1 (C.2.2.2.2.1 _ q_1048) dX10_chance_30 ?_
              obtain ⟨o20, hF⟩ := hF
              exact o20.elim
abbrev cX10_race : ByteArray := prog_1_method_41_code
def yX10_race : MethodName := ⟨RX10, "race", "(II)I"⟩
theorem dX10_race_0 : decode cX10_race 0 = .ok (.iload_n 1, 1) := by decide +kernel
theorem dX10_race_1 : decode cX10_race 1 = .ok (.ifCond .lt 19, 3) := by decide +kernel
theorem dX10_race_4 : decode cX10_race 4 = .ok (.iload_n 1, 1) := by decide +kernel
theorem dX10_race_5 : decode cX10_race 5 = .ok (.bipush 6, 2) := by decide +kernel
theorem dX10_race_7 : decode cX10_race 7 = .ok (.if_icmp .gt 13, 3) := by decide +kernel
theorem dX10_race_10 : decode cX10_race 10 = .ok (.iload_n 2, 1) := by decide +kernel
theorem dX10_race_11 : decode cX10_race 11 = .ok (.ifCond .lt 9, 3) := by decide +kernel
theorem dX10_race_14 : decode cX10_race 14 = .ok (.iload_n 2, 1) := by decide +kernel
theorem dX10_race_15 : decode cX10_race 15 = .ok (.bipush 6, 2) := by decide +kernel
theorem dX10_race_17 : decode cX10_race 17 = .ok (.if_icmp .le 5, 3) := by decide +kernel
theorem dX10_race_20 : decode cX10_race 20 = .ok (.iconst (-1), 1) := by decide +kernel
theorem dX10_race_21 : decode cX10_race 21 = .ok (.ireturn, 1) := by decide +kernel
theorem dX10_race_22 : decode cX10_race 22 = .ok (.iload_n 1, 1) := by decide +kernel
theorem dX10_race_23 : decode cX10_race 23 = .ok (.iload_n 2, 1) := by decide +kernel
theorem dX10_race_24 : decode cX10_race 24 = .ok (.iconst 1, 1) := by decide +kernel
theorem dX10_race_25 : decode cX10_race 25 = .ok (.iconst 1, 1) := by decide +kernel
theorem dX10_race_26 : decode cX10_race 26 = .ok (.invokestatic 422, 3) := by decide +kernel
theorem dX10_race_29 : decode cX10_race 29 = .ok (.l2i, 1) := by decide +kernel
theorem dX10_race_30 : decode cX10_race 30 = .ok (.ireturn, 1) := by decide +kernel
def F_X10_raceE (i : Nat) (X Y : Nat → Int → Int) (R : Nat → Int → Option Nat) (a : Int) (b : Int) : Prop := (∀ i j, rI (X i j)) → (∀ i j, rL (Y i j)) → ((a < 0) → ((-1) = rRace (a) (b))) ∧ ((¬ (a < 0)) → (((6 < a) → ((-1) = rRace (a) (b))) ∧ ((¬ (6 < a)) → (((b < 0) → ((-1) = rRace (a) (b))) ∧ ((¬ (b < 0)) → (((b ≤ 6) → ((False) ∧ (True))) ∧ ((¬ (b ≤ 6)) → ((-1) = rRace (a) (b)))))))))
set_option maxHeartbeats 4000000 in
set_option maxRecDepth 100000 in
theorem w_X10_raceE {l : Launch} {D : va_G} {cy : Nat → ClassId} {bs N : Nat} {sa : Nat → Nat} {kd len : Nat → Nat} {X Y : Nat → Int → Int} {R : Nat → Int → Option Nat} {i : Nat} (hi : i < N) (hk : kd i = 10) (a : Int) (ha : rI a) (b : Int) (hb : rI b) (hF : F_X10_raceE i X Y R a b) : Met l yX10_race (.code yX10_race cX10_race 3 (some .int) :: zTB) (zRm 0 0) (zPc D cy bs sa N kd len X Y R [.ref (bs + (i)), .int (zI (a)), .int (zI (b))]) (zQi D cy bs N kd len (fun r st => st.1 = X ∧ st.2.1 = Y ∧ st.2.2 = R ∧ (r = rRace (a) (b)))) 0 0 (zA bs) := by
  refine zstart (by decide) (Nat.le_of_ble_eq_true rfl) ?_
  intro p e s m args below meth c ls C hE hH hr hlk hnm hl hargs
  have hF := hF hH.2.2.1 hH.2.2.2
  have hS : va_S (zA bs) s.heap s.heap [] := va_S.rf
  have hl : lv_has ls 3 [(0, .ref (bs + (i))), (1, .int (zI (a))), (2, .int (zI (b)))] := hl
  refine lv_iload_n C.1 C.2.1 dX10_race_0 rfl (lv_at hl 1 rfl) ?_
  refine zd_if_lt C ha 20 dX10_race_1 (by decide) (fun c1 => ?_) (fun c1 => ?_)
  · have hF := hF.1 c1
    refine zd_iconst C dX10_race_20 ?_
    exact zd_iret C hr hlk hH hS (by decide) (⟨rfl, rfl, rfl, hF⟩) dX10_race_21
  · have hF := hF.2 c1
    refine lv_iload_n C.1 C.2.1 dX10_race_4 rfl (lv_at hl 1 rfl) ?_
    refine zd_bipush C (by decide) dX10_race_5 ?_
    refine zd_icmp_gt C ha (by decide) 20 dX10_race_7 (by decide) (fun c2 => ?_) (fun c2 => ?_)
    · have hF := hF.1 c2
      refine zd_iconst C dX10_race_20 ?_
      exact zd_iret C hr hlk hH hS (by decide) (⟨rfl, rfl, rfl, hF⟩) dX10_race_21
    · have hF := hF.2 c2
      refine lv_iload_n C.1 C.2.1 dX10_race_10 rfl (lv_at hl 2 rfl) ?_
      refine zd_if_lt C hb 20 dX10_race_11 (by decide) (fun c3 => ?_) (fun c3 => ?_)
      · have hF := hF.1 c3
        refine zd_iconst C dX10_race_20 ?_
        exact zd_iret C hr hlk hH hS (by decide) (⟨rfl, rfl, rfl, hF⟩) dX10_race_21
      · have hF := hF.2 c3
        refine lv_iload_n C.1 C.2.1 dX10_race_14 rfl (lv_at hl 2 rfl) ?_
        refine zd_bipush C (by decide) dX10_race_15 ?_
        refine zd_icmp_le C hb (by decide) 22 dX10_race_17 (by decide) (fun c4 => ?_) (fun c4 => ?_)
        · have hF := hF.1 c4
          refine lv_iload_n C.1 C.2.1 dX10_race_22 rfl (lv_at hl 1 rfl) ?_
          refine lv_iload_n C.1 C.2.1 dX10_race_23 rfl (lv_at hl 2 rfl) ?_
          refine zd_iconst C dX10_race_24 ?_
          refine zd_iconst C dX10_race_25 ?_
          obtain ⟨o5, hF⟩ := hF
          exact o5.elim
        · have hF := hF.2 c4
          refine zd_iconst C dX10_race_20 ?_
          exact zd_iret C hr hlk hH hS (by decide) (⟨rfl, rfl, rfl, hF⟩) dX10_race_21
def F_X10_raceG (i N : Nat) (X Y : Nat → Int → Int) (R : Nat → Int → Option Nat) (a : Int) (b : Int) : Prop := (∀ i j, rI (X i j)) → (∀ i j, rL (Y i j)) → ((a < 0) → ((False) ∧ (True))) ∧ ((¬ (a < 0)) → (((6 < a) → ((False) ∧ (True))) ∧ ((¬ (6 < a)) → (((b < 0) → ((False) ∧ (True))) ∧ ((¬ (b < 0)) → (((b ≤ 6) → (((0 ≤ a ∧ a ≤ 6) ∧ (0 ≤ b ∧ b ≤ 12) ∧ 0 ≤ (1 : Int) ∧ 0 ≤ (1 : Int) ∧ ((1 : Int) + (1 : Int) = 10 ∨ (1 : Int) + (1 : Int) = 2)) ∧ (∀ r10 : Int, rL r10 → ∀ Y9 : Nat → Int → Int, (∀ i j, rL (Y9 i j)) → (r10 = fwN ((1 : Int)) ((1 : Int)) (a).toNat (b).toNat 0 ∧ ∀ z, z < N → Y9 z = Y z) → ((rI (r10)) ∧ (r10 = rRace (a) (b) ∧ ∀ z, z < N → Y9 z = Y z))))) ∧ ((¬ (b ≤ 6)) → ((False) ∧ (True)))))))))
set_option maxHeartbeats 4000000 in
set_option maxRecDepth 100000 in
theorem w_X10_raceG {l : Launch} {D : va_G} {cy : Nat → ClassId} {bs N : Nat} {sa : Nat → Nat} {kd len : Nat → Nat} {X Y : Nat → Int → Int} {R : Nat → Int → Option Nat} {i : Nat} (hi : i < N) (hk : kd i = 10) (hk14 : kd N = 14) (hl20 : len N = 20) (a : Int) (ha : rI a) (b : Int) (hb : rI b) (hF : F_X10_raceG i N X Y R a b) : Met l yX10_race (.code yX10_race cX10_race 3 (some .int) :: zTB) (zRmG 1 30 1 20) (zPc D cy bs sa N kd len X Y R [.ref (bs + (i)), .int (zI (a)), .int (zI (b))]) (zQi D cy bs (N + 1) kd len (fun r st => st.1 = X ∧ st.2.2 = R ∧ (r = rRace (a) (b) ∧ ∀ z, z < N → st.2.1 z = Y z))) 1 20 (zA bs) := by
  refine zstartG (by decide) (Nat.le_of_ble_eq_true rfl) ?_
  intro p e s m args below meth c ls C hE hH hr hlk hnm hl hargs
  have hF := hF hH.2.2.1 hH.2.2.2
  have hS : va_S (zA bs) s.heap s.heap [] := va_S.rf
  have hl : lv_has ls 3 [(0, .ref (bs + (i))), (1, .int (zI (a))), (2, .int (zI (b)))] := hl
  refine lv_iload_n C.1 C.2.1 dX10_race_0 rfl (lv_at hl 1 rfl) ?_
  refine zd_if_lt C ha 20 dX10_race_1 (by decide) (fun c1 => ?_) (fun c1 => ?_)
  · have hF := hF.1 c1
    refine zd_iconst C dX10_race_20 ?_
    obtain ⟨o2, hF⟩ := hF
    exact o2.elim
  · have hF := hF.2 c1
    refine lv_iload_n C.1 C.2.1 dX10_race_4 rfl (lv_at hl 1 rfl) ?_
    refine zd_bipush C (by decide) dX10_race_5 ?_
    refine zd_icmp_gt C ha (by decide) 20 dX10_race_7 (by decide) (fun c3 => ?_) (fun c3 => ?_)
    · have hF := hF.1 c3
      refine zd_iconst C dX10_race_20 ?_
      obtain ⟨o4, hF⟩ := hF
      exact o4.elim
    · have hF := hF.2 c3
      refine lv_iload_n C.1 C.2.1 dX10_race_10 rfl (lv_at hl 2 rfl) ?_
      refine zd_if_lt C hb 20 dX10_race_11 (by decide) (fun c5 => ?_) (fun c5 => ?_)
      · have hF := hF.1 c5
        refine zd_iconst C dX10_race_20 ?_
        obtain ⟨o6, hF⟩ := hF
        exact o6.elim
      · have hF := hF.2 c5
        refine lv_iload_n C.1 C.2.1 dX10_race_14 rfl (lv_at hl 2 rfl) ?_
        refine zd_bipush C (by decide) dX10_race_15 ?_
        refine zd_icmp_le C hb (by decide) 22 dX10_race_17 (by decide) (fun c7 => ?_) (fun c7 => ?_)
        · have hF := hF.1 c7
          refine lv_iload_n C.1 C.2.1 dX10_race_22 rfl (lv_at hl 1 rfl) ?_
          refine lv_iload_n C.1 C.2.1 dX10_race_23 rfl (lv_at hl 2 rfl) ?_
          refine zd_iconst C dX10_race_24 ?_
          refine zd_iconst C dX10_race_25 ?_
          obtain ⟨o8, hF⟩ := hF
          refine zgolG (zrunSG (As := [.int (zI (a)), .int (zI (b)), .int (zI (1)), .int (zI (1))]) (rest := []) C hE hH hS hl.1 (c_X10_caught (l := l) hk14 hl20 (a) ha (b) hb (1) (by decide) (1) (by decide) o8) k_RX10_422 ⟨Nat.le_of_ble_eq_true rfl, Nat.le_of_ble_eq_true rfl⟩ rfl (Nat.le_of_ble_eq_true rfl) dX10_race_26 ⟨Nat.le_of_ble_eq_true rfl, Nat.le_of_ble_eq_true rfl⟩) hS (fun r10 Xq Y9 Rq H locs hrq hq hH hS => ?_)
          obtain ⟨h9X, h9R, hq⟩ := hq
          dsimp only at h9X h9R
          rw [h9X, h9R] at hH
          have hr10 := hrq
          have hF := hF r10 hrq Y9 hH.2.2.2 hq
          refine zd_l2i C dX10_race_29 ?_
          refine W_raise (cells := 1) (slots := 20) (Nat.le_of_ble_eq_true rfl) (Nat.le_of_ble_eq_true rfl) ?_
          obtain ⟨o11, hF⟩ := hF
          exact zd_iretG C hr hlk hH hS o11 (⟨rfl, rfl, hF⟩) dX10_race_30
        · have hF := hF.2 c7
          refine zd_iconst C dX10_race_20 ?_
          obtain ⟨o12, hF⟩ := hF
          exact o12.elim
theorem rCh_no {p z n : Int} {u : Bool} (h : ¬ ((0 ≤ p ∧ p ≤ 10) ∧ (0 ≤ z ∧ z ≤ 6) ∧ 0 ≤ n ∧ n ≤ 12)) : -1 = rChance p z n u := by
  unfold rChance
  rw [if_neg]
  intro q
  rw [Bool.and_eq_true, Bool.and_eq_true] at q
  exact h ⟨mIn_t.mp q.1, mIn_t.mp q.2.1, mIn_t.mp q.2.2⟩
theorem rCh_ok {p z n : Int} {u : Bool} (h : (0 ≤ p ∧ p ≤ 10) ∧ (0 ≤ z ∧ z ≤ 6) ∧ 0 ≤ n ∧ n ≤ 12) : mPt (fwN p (10 - p) z.toNat n.toNat 0) (10 ^ n.toNat) u = rChance p z n u := by
  unfold rChance
  rw [if_pos]
  rw [Bool.and_eq_true, Bool.and_eq_true]
  exact ⟨mIn_t.mpr h.1, mIn_t.mpr h.2.1, mIn_t.mpr h.2.2⟩
theorem rRa_no {z n : Int} (h : ¬ ((0 ≤ z ∧ z ≤ 6) ∧ 0 ≤ n ∧ n ≤ 6)) : -1 = rRace z n := by
  unfold rRace
  rw [if_neg]
  intro q
  rw [Bool.and_eq_true] at q
  exact h ⟨mIn_t.mp q.1, mIn_t.mp q.2⟩
theorem rRa_ok {z n : Int} (h : (0 ≤ z ∧ z ≤ 6) ∧ 0 ≤ n ∧ n ≤ 6) : fwN 1 1 z.toNat n.toNat 0 = rRace z n := by
  unfold rRace
  rw [if_pos]
  rw [Bool.and_eq_true]
  exact ⟨mIn_t.mpr h.1, mIn_t.mpr h.2⟩
theorem v_X10_chanceE {X Y : Nat → Int → Int} {R : Nat → Int → Option Nat} {i : Nat} (a : Int) (ha : rI a) (b : Int) (hb : rI b) (g : Int) (hg : rI g) (d : Bool) (hp : ¬ ((0 ≤ a ∧ a ≤ 10) ∧ (0 ≤ b ∧ b ≤ 6) ∧ 0 ≤ g ∧ g ≤ 12)) : F_X10_chanceE i X Y R a b g d := by
  unfold F_X10_chanceE
  intro hX hY
  refine ⟨?_, ?_⟩
  · intro c1
    exact rCh_no hp
  intro c2
  refine ⟨?_, ?_⟩
  · intro c3
    exact rCh_no hp
  intro c4
  refine ⟨?_, ?_⟩
  · intro c5
    exact rCh_no hp
  intro c6
  refine ⟨?_, ?_⟩
  · intro c7
    exact rCh_no hp
  intro c8
  refine ⟨?_, ?_⟩
  · intro c9
    exact rCh_no hp
  intro c10
  refine ⟨?_, ?_⟩
  · intro c11
    refine ⟨?_, ?_⟩
    · first | omega | exact ⟨by omega, by omega⟩ | decide | assumption | exact ⟨by omega, by omega, by omega⟩ | exact ⟨by decide, by decide⟩
    trivial
  intro c12
  exact rCh_no hp
theorem c_X10_chanceE {l : Launch} {D : va_G} {cy : Nat → ClassId} {bs N : Nat} {sa : Nat → Nat} {kd len : Nat → Nat} {X Y : Nat → Int → Int} {R : Nat → Int → Option Nat} {i : Nat} (hi : i < N) (hk : kd i = 10) (a : Int) (ha : rI a) (b : Int) (hb : rI b) (g : Int) (hg : rI g) (d : Bool) (hp : ¬ ((0 ≤ a ∧ a ≤ 10) ∧ (0 ≤ b ∧ b ≤ 6) ∧ 0 ≤ g ∧ g ≤ 12)) : Met l yX10_chance (.code yX10_chance cX10_chance 5 (some .long) :: zTB) (zRm 0 0) (zPc D cy bs sa N kd len X Y R [.ref (bs + (i)), .int (zI (a)), .int (zI (b)), .int (zI (g)), .int (zI (bz (d)))]) (zQl D cy bs N kd len (fun r st => st.1 = X ∧ st.2.1 = Y ∧ st.2.2 = R ∧ (r = rChance (a) (b) (g) d))) 0 0 (zA bs) := w_X10_chanceE hi hk a ha b hb g hg d (v_X10_chanceE a ha b hb g hg d hp)
theorem v_X10_chanceG {X Y : Nat → Int → Int} {R : Nat → Int → Option Nat} {i N : Nat} (a : Int) (ha : rI a) (b : Int) (hb : rI b) (g : Int) (hg : rI g) (d : Bool) (hp : (0 ≤ a ∧ a ≤ 10) ∧ (0 ≤ b ∧ b ≤ 6) ∧ 0 ≤ g ∧ g ≤ 12) : F_X10_chanceG i N X Y R a b g d := by
  unfold F_X10_chanceG
  intro hX hY
  refine ⟨?_, ?_⟩
  · intro c1
    refine ⟨?_, ?_⟩
    · first | omega | exact ⟨by omega, by omega⟩ | decide | assumption | exact ⟨by omega, by omega, by omega⟩ | exact ⟨by decide, by decide⟩
    trivial
  intro c2
  refine ⟨?_, ?_⟩
  · intro c3
    refine ⟨?_, ?_⟩
    · first | omega | exact ⟨by omega, by omega⟩ | decide | assumption | exact ⟨by omega, by omega, by omega⟩ | exact ⟨by decide, by decide⟩
    trivial
  intro c4
  refine ⟨?_, ?_⟩
  · intro c5
    refine ⟨?_, ?_⟩
    · first | omega | exact ⟨by omega, by omega⟩ | decide | assumption | exact ⟨by omega, by omega, by omega⟩ | exact ⟨by decide, by decide⟩
    trivial
  intro c6
  refine ⟨?_, ?_⟩
  · intro c7
    refine ⟨?_, ?_⟩
    · first | omega | exact ⟨by omega, by omega⟩ | decide | assumption | exact ⟨by omega, by omega, by omega⟩ | exact ⟨by decide, by decide⟩
    trivial
  intro c8
  refine ⟨?_, ?_⟩
  · intro c9
    refine ⟨?_, ?_⟩
    · first | omega | exact ⟨by omega, by omega⟩ | decide | assumption | exact ⟨by omega, by omega, by omega⟩ | exact ⟨by decide, by decide⟩
    trivial
  intro c10
  refine ⟨?_, ?_⟩
  · intro c11
    refine ⟨?_, ?_⟩
    · first | omega | exact ⟨by omega, by omega⟩ | decide | assumption | exact ⟨by omega, by omega, by omega⟩ | exact ⟨by decide, by decide⟩
    refine ⟨?_, ?_⟩
    · first | omega | exact ⟨by omega, by omega⟩ | decide | assumption | exact ⟨by omega, by omega, by omega⟩ | exact ⟨by decide, by decide⟩
    intro r15
    intro _
    intro Y14
    intro rY14
    intro h1
    have gb := gvN_c (u := a) (d := 10 - a) (t := g.toNat) (by omega) (by omega) (by omega) (by omega) b.toNat
    rw [gvN_fw _ _ (by omega), ← h1.1] at gb
    have gp := p10 g.toNat (by omega)
    refine ⟨?_, ?_⟩
    · first | omega | exact ⟨by omega, by omega⟩ | decide | assumption | exact ⟨by omega, by omega, by omega⟩ | exact ⟨by decide, by decide⟩
    intro _
    refine ⟨?_, ?_⟩
    · exact ⟨⟨by omega, by omega⟩, by omega, by omega⟩
    intro _
    exact ⟨by rw [h1.1]; exact rCh_ok hp, h1.2⟩
  intro c12
  refine ⟨?_, ?_⟩
  · first | omega | exact ⟨by omega, by omega⟩ | decide | assumption | exact ⟨by omega, by omega, by omega⟩ | exact ⟨by decide, by decide⟩
  trivial
theorem c_X10_chanceG {l : Launch} {D : va_G} {cy : Nat → ClassId} {bs N : Nat} {sa : Nat → Nat} {kd len : Nat → Nat} {X Y : Nat → Int → Int} {R : Nat → Int → Option Nat} {i : Nat} (hi : i < N) (hk : kd i = 10) (hk14 : kd N = 14) (hl20 : len N = 20) (a : Int) (ha : rI a) (b : Int) (hb : rI b) (g : Int) (hg : rI g) (d : Bool) (hp : (0 ≤ a ∧ a ≤ 10) ∧ (0 ≤ b ∧ b ≤ 6) ∧ 0 ≤ g ∧ g ≤ 12) : Met l yX10_chance (.code yX10_chance cX10_chance 5 (some .long) :: zTB) (zRmG 1 31 1 20) (zPc D cy bs sa N kd len X Y R [.ref (bs + (i)), .int (zI (a)), .int (zI (b)), .int (zI (g)), .int (zI (bz (d)))]) (zQl D cy bs (N + 1) kd len (fun r st => st.1 = X ∧ st.2.2 = R ∧ (r = rChance (a) (b) (g) d ∧ ∀ z, z < N → st.2.1 z = Y z))) 1 20 (zA bs) := w_X10_chanceG hi hk hk14 hl20 a ha b hb g hg d (v_X10_chanceG a ha b hb g hg d hp)
theorem v_X10_raceE {X Y : Nat → Int → Int} {R : Nat → Int → Option Nat} {i : Nat} (a : Int) (ha : rI a) (b : Int) (hb : rI b) (hp : ¬ ((0 ≤ a ∧ a ≤ 6) ∧ 0 ≤ b ∧ b ≤ 6)) : F_X10_raceE i X Y R a b := by
  unfold F_X10_raceE
  intro hX hY
  refine ⟨?_, ?_⟩
  · intro c1
    exact rRa_no hp
  intro c2
  refine ⟨?_, ?_⟩
  · intro c3
    exact rRa_no hp
  intro c4
  refine ⟨?_, ?_⟩
  · intro c5
    exact rRa_no hp
  intro c6
  refine ⟨?_, ?_⟩
  · intro c7
    refine ⟨?_, ?_⟩
    · first | omega | exact ⟨by omega, by omega⟩ | decide | assumption | exact ⟨by omega, by omega, by omega⟩ | exact ⟨by decide, by decide⟩
    trivial
  intro c8
  exact rRa_no hp
theorem c_X10_raceE {l : Launch} {D : va_G} {cy : Nat → ClassId} {bs N : Nat} {sa : Nat → Nat} {kd len : Nat → Nat} {X Y : Nat → Int → Int} {R : Nat → Int → Option Nat} {i : Nat} (hi : i < N) (hk : kd i = 10) (a : Int) (ha : rI a) (b : Int) (hb : rI b) (hp : ¬ ((0 ≤ a ∧ a ≤ 6) ∧ 0 ≤ b ∧ b ≤ 6)) : Met l yX10_race (.code yX10_race cX10_race 3 (some .int) :: zTB) (zRm 0 0) (zPc D cy bs sa N kd len X Y R [.ref (bs + (i)), .int (zI (a)), .int (zI (b))]) (zQi D cy bs N kd len (fun r st => st.1 = X ∧ st.2.1 = Y ∧ st.2.2 = R ∧ (r = rRace (a) (b)))) 0 0 (zA bs) := w_X10_raceE hi hk a ha b hb (v_X10_raceE a ha b hb hp)
theorem v_X10_raceG {X Y : Nat → Int → Int} {R : Nat → Int → Option Nat} {i N : Nat} (a : Int) (ha : rI a) (b : Int) (hb : rI b) (hp : (0 ≤ a ∧ a ≤ 6) ∧ 0 ≤ b ∧ b ≤ 6) : F_X10_raceG i N X Y R a b := by
  unfold F_X10_raceG
  intro hX hY
  refine ⟨?_, ?_⟩
  · intro c1
    refine ⟨?_, ?_⟩
    · first | omega | exact ⟨by omega, by omega⟩ | decide | assumption | exact ⟨by omega, by omega, by omega⟩ | exact ⟨by decide, by decide⟩
    trivial
  intro c2
  refine ⟨?_, ?_⟩
  · intro c3
    refine ⟨?_, ?_⟩
    · first | omega | exact ⟨by omega, by omega⟩ | decide | assumption | exact ⟨by omega, by omega, by omega⟩ | exact ⟨by decide, by decide⟩
    trivial
  intro c4
  refine ⟨?_, ?_⟩
  · intro c5
    refine ⟨?_, ?_⟩
    · first | omega | exact ⟨by omega, by omega⟩ | decide | assumption | exact ⟨by omega, by omega, by omega⟩ | exact ⟨by decide, by decide⟩
    trivial
  intro c6
  refine ⟨?_, ?_⟩
  · intro c7
    refine ⟨?_, ?_⟩
    · exact ⟨by omega, by omega, by decide, by decide, Or.inr rfl⟩
    intro r10
    intro _
    intro Y9
    intro rY9
    intro h1
    have gb := gvN_b (u := 1) (d := 1) (by decide) (by decide) b.toNat a.toNat
    rw [gvN_fw _ _ (by omega), show (1 : Int) + 1 = 2 from rfl, ← h1.1] at gb
    have gp := p2m b.toNat (by omega)
    refine ⟨?_, ?_⟩
    · first | omega | exact ⟨by omega, by omega⟩ | decide | assumption | exact ⟨by omega, by omega, by omega⟩ | exact ⟨by decide, by decide⟩
    exact ⟨by rw [h1.1]; exact rRa_ok hp, h1.2⟩
  intro c8
  refine ⟨?_, ?_⟩
  · first | omega | exact ⟨by omega, by omega⟩ | decide | assumption | exact ⟨by omega, by omega, by omega⟩ | exact ⟨by decide, by decide⟩
  trivial
theorem c_X10_raceG {l : Launch} {D : va_G} {cy : Nat → ClassId} {bs N : Nat} {sa : Nat → Nat} {kd len : Nat → Nat} {X Y : Nat → Int → Int} {R : Nat → Int → Option Nat} {i : Nat} (hi : i < N) (hk : kd i = 10) (hk14 : kd N = 14) (hl20 : len N = 20) (a : Int) (ha : rI a) (b : Int) (hb : rI b) (hp : (0 ≤ a ∧ a ≤ 6) ∧ 0 ≤ b ∧ b ≤ 6) : Met l yX10_race (.code yX10_race cX10_race 3 (some .int) :: zTB) (zRmG 1 30 1 20) (zPc D cy bs sa N kd len X Y R [.ref (bs + (i)), .int (zI (a)), .int (zI (b))]) (zQi D cy bs (N + 1) kd len (fun r st => st.1 = X ∧ st.2.2 = R ∧ (r = rRace (a) (b) ∧ ∀ z, z < N → st.2.1 z = Y z))) 1 20 (zA bs) := w_X10_raceG hi hk hk14 hl20 a ha b hb (v_X10_raceG a ha b hb hp)
