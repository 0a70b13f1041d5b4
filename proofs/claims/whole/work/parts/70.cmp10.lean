/-! THE RICHEST -/
abbrev cX5_richest : ByteArray := prog_7_method_6_code
def yX5_richest : MethodName := ⟨RX5, "richest", "()I"⟩
theorem dX5_richest_0 : decode cX5_richest 0 = .ok (.iconst (-1), 1) := by decide +kernel
theorem dX5_richest_1 : decode cX5_richest 1 = .ok (.istore_n 1, 1) := by decide +kernel
theorem dX5_richest_2 : decode cX5_richest 2 = .ok (.iconst 0, 1) := by decide +kernel
theorem dX5_richest_3 : decode cX5_richest 3 = .ok (.istore_n 2, 1) := by decide +kernel
theorem dX5_richest_4 : decode cX5_richest 4 = .ok (.iload_n 2, 1) := by decide +kernel
theorem dX5_richest_5 : decode cX5_richest 5 = .ok (.aload_n 0, 1) := by decide +kernel
theorem dX5_richest_6 : decode cX5_richest 6 = .ok (.getfield 21, 3) := by decide +kernel
theorem dX5_richest_9 : decode cX5_richest 9 = .ok (.if_icmp .ge 37, 3) := by decide +kernel
theorem dX5_richest_12 : decode cX5_richest 12 = .ok (.iload_n 2, 1) := by decide +kernel
theorem dX5_richest_13 : decode cX5_richest 13 = .ok (.bipush 6, 2) := by decide +kernel
theorem dX5_richest_15 : decode cX5_richest 15 = .ok (.if_icmp .ge 31, 3) := by decide +kernel
theorem dX5_richest_18 : decode cX5_richest 18 = .ok (.iload_n 1, 1) := by decide +kernel
theorem dX5_richest_19 : decode cX5_richest 19 = .ok (.iconst (-1), 1) := by decide +kernel
theorem dX5_richest_20 : decode cX5_richest 20 = .ok (.if_icmp .eq 18, 3) := by decide +kernel
theorem dX5_richest_23 : decode cX5_richest 23 = .ok (.aload_n 0, 1) := by decide +kernel
theorem dX5_richest_24 : decode cX5_richest 24 = .ok (.getfield 9, 3) := by decide +kernel
theorem dX5_richest_27 : decode cX5_richest 27 = .ok (.iload_n 2, 1) := by decide +kernel
theorem dX5_richest_28 : decode cX5_richest 28 = .ok (.iaload, 1) := by decide +kernel
theorem dX5_richest_29 : decode cX5_richest 29 = .ok (.aload_n 0, 1) := by decide +kernel
theorem dX5_richest_30 : decode cX5_richest 30 = .ok (.getfield 9, 3) := by decide +kernel
theorem dX5_richest_33 : decode cX5_richest 33 = .ok (.iload_n 1, 1) := by decide +kernel
theorem dX5_richest_34 : decode cX5_richest 34 = .ok (.iaload, 1) := by decide +kernel
theorem dX5_richest_35 : decode cX5_richest 35 = .ok (.if_icmp .le 5, 3) := by decide +kernel
theorem dX5_richest_38 : decode cX5_richest 38 = .ok (.iload_n 2, 1) := by decide +kernel
theorem dX5_richest_39 : decode cX5_richest 39 = .ok (.istore_n 1, 1) := by decide +kernel
theorem dX5_richest_40 : decode cX5_richest 40 = .ok (.iinc 2 1, 3) := by decide +kernel
theorem dX5_richest_43 : decode cX5_richest 43 = .ok (.goto (-39), 3) := by decide +kernel
theorem dX5_richest_46 : decode cX5_richest 46 = .ok (.iload_n 1, 1) := by decide +kernel
theorem dX5_richest_47 : decode cX5_richest 47 = .ok (.ireturn, 1) := by decide +kernel
def F_X5_richest (i : Nat) (X Y : Nat → Int → Int) (R : Nat → Int → Option Nat)  : Prop := (∀ i j, rI (X i j)) → (∀ i j, rL (Y i j)) → (∃ q : Nat, (0 : Int) = q ∧ q ≤ (X i 0).toNat ∧ (-1 : Int) = riN (fun z => X (i + 1) z) q) ∧ (∀ (bt : Int) (k : Int), rI bt → rI k → (∃ q : Nat, k = q ∧ q ≤ (X i 0).toNat ∧ bt = riN (fun z => X (i + 1) z) q) → ((((X (i) 0) ≤ k) → (bt = riN (fun z => X (i + 1) z) (X i 0).toNat)) ∧ ((¬ ((X (i) 0) ≤ k)) → (((6 ≤ k) → (bt = riN (fun z => X (i + 1) z) (X i 0).toNat)) ∧ ((¬ (6 ≤ k)) → (((bt = (-1)) → ((rI (k + 1)) ∧ (∃ q : Nat, k + 1 = q ∧ q ≤ (X i 0).toNat ∧ k = riN (fun z => X (i + 1) z) q) ∧ (((6 - (k + 1)).toNat) < ((6 - (k)).toNat)))) ∧ ((¬ (bt = (-1))) → ((0 ≤ k ∧ k < 6) ∧ ((0 ≤ bt ∧ bt < 6) ∧ ((((X (i + 1) (k)) ≤ (X (i + 1) (bt))) → ((rI (k + 1)) ∧ (∃ q : Nat, k + 1 = q ∧ q ≤ (X i 0).toNat ∧ bt = riN (fun z => X (i + 1) z) q) ∧ (((6 - (k + 1)).toNat) < ((6 - (k)).toNat)))) ∧ ((¬ ((X (i + 1) (k)) ≤ (X (i + 1) (bt)))) → ((rI (k + 1)) ∧ (∃ q : Nat, k + 1 = q ∧ q ≤ (X i 0).toNat ∧ k = riN (fun z => X (i + 1) z) q) ∧ (((6 - (k + 1)).toNat) < ((6 - (k)).toNat))))))))))))))
set_option maxHeartbeats 4000000 in
set_option maxRecDepth 100000 in
theorem w_X5_richest {l : Launch} {D : va_G} {cy : Nat → ClassId} {bs N : Nat} {sa : Nat → Nat} {kd len : Nat → Nat} {X Y : Nat → Int → Int} {R : Nat → Int → Option Nat} {i : Nat} (hC : zLedger N kd len R i)  (hF : F_X5_richest i X Y R ) : Met l yX5_richest (.code yX5_richest cX5_richest 3 (some .int) :: zTB) (zRm 0 0) (zPc D cy bs sa N kd len X Y R [.ref (bs + (i))]) (zQi D cy bs N kd len (fun r st => r = riN (fun z => X (i + 1) z) (X i 0).toNat ∧ st = (X, Y, R))) 0 0 (zA bs) := by
  refine zstart (by decide) (Nat.le_of_ble_eq_true rfl) ?_
  intro p e s m args below meth c ls C hE hH hr hlk hnm hl hargs
  have hF := hF hH.2.2.1 hH.2.2.2
  have hS : va_S (zA bs) s.heap s.heap [] := va_S.rf
  have hl : lv_has ls 3 [(0, .ref (bs + (i)))] := hl
  refine zd_iconst C dX5_richest_0 ?_
  refine lv_istore_n (lv' := [(1, .int (zI ((-1)))), (0, .ref (bs + (i)))]) C.1 C.2.1 dX5_richest_1 rfl hl (by decide) rfl (fun ls hl => ?_)
  refine zd_iconst C dX5_richest_2 ?_
  refine lv_istore_n (lv' := [(2, .int (zI (0))), (1, .int (zI ((-1)))), (0, .ref (bs + (i)))]) C.1 C.2.1 dX5_richest_3 rfl hl (by decide) rfl (fun ls hl => ?_)
  obtain ⟨hI1, hF⟩ := hF
  have L1 : ∀ (fu : Nat) (bt : Int) (k : Int), rI bt → rI k → (∃ q : Nat, k = q ∧ q ≤ (X i 0).toNat ∧ bt = riN (fun z => X (i + 1) z) q) → ((6 - (k)).toNat) < fu → ∀ (H : Heap) (locs : List Loc) (ls : Array Slot), zH D cy bs N kd len X Y R H → va_S (zA bs) s.heap H locs → lv_has ls 3 [(1, .int (zI (bt))), (2, .int (zI (k))), (0, .ref (bs + (i)))] → W p l e (zRm 0 0) s m args below meth c H locs 0 0 (MQ below (zQi D cy bs N kd len (fun r st => r = riN (fun z => X (i + 1) z) (X i 0).toNat ∧ st = (X, Y, R))) args s 0 0 (zA bs)) (F0 m 4 ls []) := by
    intro fu
    induction fu with
    | zero => intro bt k _ _ _ hmu; exact absurd hmu (Nat.not_lt_zero _)
    | succ fu ih1 =>
      intro bt k hbt hk hI hmu1 H locs ls hH hS hl
      have hF := hF bt k hbt hk  hI
      refine lv_iload_n C.1 C.2.1 dX5_richest_4 rfl (lv_at hl 1 rfl) ?_
      refine lv_aload_n C.1 C.2.1 dX5_richest_5 rfl (lv_at hl 2 rfl) ?_
      refine zg5_0 C hH (zLedger_n0 hC) (zLedger_k0 hC) q_382 dX5_richest_6 ?_
      refine zd_icmp_ge C hk (hH.2.2.1 _ _) 46 dX5_richest_9 (by decide) (fun c2 => ?_) (fun c2 => ?_)
      · have hF := hF.1 c2
        refine lv_iload_n C.1 C.2.1 dX5_richest_46 rfl (lv_at hl 0 rfl) ?_
        exact zd_iret C hr hlk hH hS hbt (⟨hF, rfl⟩) dX5_richest_47
      · have hF := hF.2 c2
        refine lv_iload_n C.1 C.2.1 dX5_richest_12 rfl (lv_at hl 1 rfl) ?_
        refine zd_bipush C (by decide) dX5_richest_13 ?_
        refine zd_icmp_ge C hk (by decide) 46 dX5_richest_15 (by decide) (fun c3 => ?_) (fun c3 => ?_)
        · have hF := hF.1 c3
          refine lv_iload_n C.1 C.2.1 dX5_richest_46 rfl (lv_at hl 0 rfl) ?_
          exact zd_iret C hr hlk hH hS hbt (⟨hF, rfl⟩) dX5_richest_47
        · have hF := hF.2 c3
          refine lv_iload_n C.1 C.2.1 dX5_richest_18 rfl (lv_at hl 0 rfl) ?_
          refine zd_iconst C dX5_richest_19 ?_
          refine zd_icmp_eq C hbt (by decide) 38 dX5_richest_20 (by decide) (fun c4 => ?_) (fun c4 => ?_)
          · have hF := hF.1 c4
            refine lv_iload_n C.1 C.2.1 dX5_richest_38 rfl (lv_at hl 1 rfl) ?_
            refine lv_istore_n (lv' := [(1, .int (zI (k))), (2, .int (zI (k))), (0, .ref (bs + (i)))]) C.1 C.2.1 dX5_richest_39 rfl hl (by decide) rfl (fun ls hl => ?_)
            refine zd_iinc (k := 1) (lv' := [(2, .int (zI (k + 1))), (1, .int (zI (k))), (0, .ref (bs + (i)))]) C hl rfl dX5_richest_40 (by decide) rfl (fun ls hl => ?_)
            refine lv_goto (tgt := 4) C.1 C.2.1 dX5_richest_43 (by decide) ?_
            obtain ⟨o5, hF⟩ := hF
            exact ih1 (k) (k + 1) hk o5 hF.1 (Nat.lt_of_lt_of_le hF.2 (Nat.le_of_lt_succ hmu1)) _ _ _ hH hS (lv_sub hl [1, 0, 2] rfl)
          · have hF := hF.2 c4
            refine lv_aload_n C.1 C.2.1 dX5_richest_23 rfl (lv_at hl 2 rfl) ?_
            refine zg5_1 C hH (zLedger_n0 hC) (zLedger_k0 hC) q_383 (zLedger_r1 hC) dX5_richest_24 ?_
            refine lv_iload_n C.1 C.2.1 dX5_richest_27 rfl (lv_at hl 1 rfl) ?_
            obtain ⟨o6, hF⟩ := hF
            refine zd_iald C hH (zLedger_n1 hC) (zLedger_k1 hC) o6.1 (by rw [zLedger_l1 hC]; exact o6.2) (by rw [zLedger_l1 hC]; decide) dX5_richest_28 ?_
            refine lv_aload_n C.1 C.2.1 dX5_richest_29 rfl (lv_at hl 2 rfl) ?_
            refine zg5_1 C hH (zLedger_n0 hC) (zLedger_k0 hC) q_383 (zLedger_r1 hC) dX5_richest_30 ?_
            refine lv_iload_n C.1 C.2.1 dX5_richest_33 rfl (lv_at hl 0 rfl) ?_
            obtain ⟨o7, hF⟩ := hF
            refine zd_iald C hH (zLedger_n1 hC) (zLedger_k1 hC) o7.1 (by rw [zLedger_l1 hC]; exact o7.2) (by rw [zLedger_l1 hC]; decide) dX5_richest_34 ?_
            refine zd_icmp_le C (hH.2.2.1 _ _) (hH.2.2.1 _ _) 40 dX5_richest_35 (by decide) (fun c8 => ?_) (fun c8 => ?_)
            · have hF := hF.1 c8
              refine zd_iinc (k := 1) (lv' := [(2, .int (zI (k + 1))), (1, .int (zI (bt))), (0, .ref (bs + (i)))]) C hl rfl dX5_richest_40 (by decide) rfl (fun ls hl => ?_)
              refine lv_goto (tgt := 4) C.1 C.2.1 dX5_richest_43 (by decide) ?_
              obtain ⟨o9, hF⟩ := hF
              exact ih1 (bt) (k + 1) hbt o9 hF.1 (Nat.lt_of_lt_of_le hF.2 (Nat.le_of_lt_succ hmu1)) _ _ _ hH hS (lv_sub hl [1, 0, 2] rfl)
            · have hF := hF.2 c8
              refine lv_iload_n C.1 C.2.1 dX5_richest_38 rfl (lv_at hl 1 rfl) ?_
              refine lv_istore_n (lv' := [(1, .int (zI (k))), (2, .int (zI (k))), (0, .ref (bs + (i)))]) C.1 C.2.1 dX5_richest_39 rfl hl (by decide) rfl (fun ls hl => ?_)
              refine zd_iinc (k := 1) (lv' := [(2, .int (zI (k + 1))), (1, .int (zI (k))), (0, .ref (bs + (i)))]) C hl rfl dX5_richest_40 (by decide) rfl (fun ls hl => ?_)
              refine lv_goto (tgt := 4) C.1 C.2.1 dX5_richest_43 (by decide) ?_
              obtain ⟨o10, hF⟩ := hF
              exact ih1 (k) (k + 1) hk o10 hF.1 (Nat.lt_of_lt_of_le hF.2 (Nat.le_of_lt_succ hmu1)) _ _ _ hH hS (lv_sub hl [1, 0, 2] rfl)
  exact L1 (((6 - ((0 : Int))).toNat) + 1) ((-1 : Int)) ((0 : Int)) (by decide) (by decide) hI1 (Nat.lt_succ_self _) _ _ _ hH hS (lv_sub hl [1, 0, 2] rfl)
theorem v_X5_richest {X Y : Nat → Int → Int} {R : Nat → Int → Option Nat} {i : Nat}  (hp : 0 ≤ X i 0 ∧ X i 0 ≤ 6) : F_X5_richest i X Y R  := by
  unfold F_X5_richest
  intro hX hY
  obtain ⟨p0, p1⟩ := hp
  refine ⟨?_, ?_⟩
  · exact ⟨0, rfl, Nat.zero_le _, rfl⟩
  intro bt k
  intro _
  intro _
  intro h1
  obtain ⟨q, hq, q2, hz⟩ := h1
  subst hq
  have hb := riN_b (fun z => X (i + 1) z) q
  have st : riN (fun z => X (i + 1) z) (q + 1) = if riN (fun z => X (i + 1) z) q = -1 ∨ X (i + 1) (riN (fun z => X (i + 1) z) q) < X (i + 1) q then (q : Int) else riN (fun z => X (i + 1) z) q := rfl
  rw [← hz] at hb st
  refine ⟨?_, ?_⟩
  · intro c1
    rw [hz, show (X i 0).toNat = q by omega]
  intro c2
  refine ⟨?_, ?_⟩
  · intro c3
    rw [hz, show (X i 0).toNat = q by omega]
  intro c4
  refine ⟨?_, ?_⟩
  · intro c5
    refine ⟨?_, ?_⟩
    · first | omega | exact ⟨by omega, by omega⟩ | decide | assumption | exact ⟨by omega, by omega, by omega⟩ | exact ⟨by decide, by decide⟩
    refine ⟨?_, ?_⟩
    · exact ⟨q + 1, by omega, by omega, by rw [st, if_pos (Or.inl c5)]⟩
    first | omega | exact ⟨by omega, by omega⟩ | decide | assumption | exact ⟨by omega, by omega, by omega⟩ | exact ⟨by decide, by decide⟩
  intro c6
  refine ⟨?_, ?_⟩
  · first | omega | exact ⟨by omega, by omega⟩ | decide | assumption | exact ⟨by omega, by omega, by omega⟩ | exact ⟨by decide, by decide⟩
  refine ⟨?_, ?_⟩
  · first | omega | exact ⟨by omega, by omega⟩ | decide | assumption | exact ⟨by omega, by omega, by omega⟩ | exact ⟨by decide, by decide⟩
  refine ⟨?_, ?_⟩
  · intro c7
    refine ⟨?_, ?_⟩
    · first | omega | exact ⟨by omega, by omega⟩ | decide | assumption | exact ⟨by omega, by omega, by omega⟩ | exact ⟨by decide, by decide⟩
    refine ⟨?_, ?_⟩
    · exact ⟨q + 1, by omega, by omega, by rw [st, if_neg (fun g => g.elim (fun g => c6 g) (fun g => by omega))]⟩
    first | omega | exact ⟨by omega, by omega⟩ | decide | assumption | exact ⟨by omega, by omega, by omega⟩ | exact ⟨by decide, by decide⟩
  intro c8
  refine ⟨?_, ?_⟩
  · first | omega | exact ⟨by omega, by omega⟩ | decide | assumption | exact ⟨by omega, by omega, by omega⟩ | exact ⟨by decide, by decide⟩
  refine ⟨?_, ?_⟩
  · exact ⟨q + 1, by omega, by omega, by rw [st, if_pos (Or.inr (by omega))]⟩
  first | omega | exact ⟨by omega, by omega⟩ | decide | assumption | exact ⟨by omega, by omega, by omega⟩ | exact ⟨by decide, by decide⟩
theorem c_X5_richest {l : Launch} {D : va_G} {cy : Nat → ClassId} {bs N : Nat} {sa : Nat → Nat} {kd len : Nat → Nat} {X Y : Nat → Int → Int} {R : Nat → Int → Option Nat} {i : Nat} (hC : zLedger N kd len R i)  (hp : 0 ≤ X i 0 ∧ X i 0 ≤ 6) : Met l yX5_richest (.code yX5_richest cX5_richest 3 (some .int) :: zTB) (zRm 0 0) (zPc D cy bs sa N kd len X Y R [.ref (bs + (i))]) (zQi D cy bs N kd len (fun r st => r = riN (fun z => X (i + 1) z) (X i 0).toNat ∧ st = (X, Y, R))) 0 0 (zA bs) := w_X5_richest hC  (v_X5_richest  hp)
