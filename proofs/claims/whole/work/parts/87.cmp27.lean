/-! QUESTIONS ABOUT BLOCKS IN A NET -/
section CQ
variable {Z : Nat → Int → Int} {q : Nat} {X Y : Nat → Int → Int} {R : Nat → Int → Option Nat} {i : Nat}
theorem hz_27 {n c f : Int} : hZ Z q n c f q 27 = 1 + qN Z q c := hZ_s.2.2.2.1
theorem hz_26 {n c f : Int} : hZ Z q n c f q 26 = Z (q + 6) (13 * n + 6) := hZ_s.2.2.1
theorem cA_b (h : cA Z q X Y R i) : X (cb R i) 0 = Z q 27 - 1 := h.1.2.2.1.1.1
theorem cA_a (h : cA Z q X Y R i) : X (cn R i) 6 = Z q 26 ∧ (0 ≤ Z q 26 ∧ Z q 26 ≤ 6) := ⟨h.2.2.1.1.2.2.2.1, h.2.1.2.1⟩
theorem cA_so (h : cA Z q X Y R i) (g : Int) : soE X i g = (decide (0 ≤ g ∧ g < Z q 27) && sdf Z q g.toNat) := by
  have l := cA_l h
  unfold soE
  by_cases c : 0 ≤ g ∧ g < Z q 27
  · obtain ⟨n, rfl⟩ := nat_of c.1
    rw [decide_eq_true c, decide_eq_true (show 0 ≤ (n : Int) ∧ (n : Int) ≤ X i 2 by omega), cA_s h c.2, show ((n : Nat) : Int).toNat = n by omega]
  · rw [decide_eq_false c, decide_eq_false (show ¬ (0 ≤ g ∧ g ≤ X i 2) by omega)]
    rfl
theorem cA_ld (h : cA Z q X Y R i) {k : Nat} (hk : (k : Int) < Z q 27) (hs : sdf Z q k = true) : X (i + 17 + 2 * k) 0 = Z q 26 ∧ (∀ a, 0 ≤ a → a < Z q 26 → X (i + 17 + 2 * k + 1) a = rLd Z q k a) ∧ ∀ a, 0 ≤ a → a < 6 → 0 ≤ X (i + 17 + 2 * k + 1) a ∧ X (i + 17 + 2 * k + 1) a ≤ 99 + 396 * k := by
  obtain ⟨M, hM⟩ := Option.isSome_iff_exists.mp (show (rS Z q k).isSome = true from hs)
  have g := h.2.2.2.2.2 k hk M hM
  have a6 := (cA_a h).2
  have hb := rS_b h.2.1.2 h.1.1.1.2 k (by omega) M hM
  have e : ∀ a, rLd Z q k a = M a := fun a => by
    unfold rLd
    rw [hM]
    rfl
  refine ⟨g.1, fun a a0 a1 => by rw [e]; exact (g.2 a a0 (by omega)).1 a1, fun a a0 a1 => ?_⟩
  by_cases c : a < Z q 26
  · rw [(g.2 a a0 a1).1 c]
    exact hb a a0 a1
  · have := (g.2 a a0 a1).2 (by omega)
    exact ⟨by omega, by omega⟩
end CQ
abbrev cX10_isAccount : ByteArray := prog_1_method_24_code
def yX10_isAccount : MethodName := ⟨RX10, "isAccount", "(LWorkChains$Net;I)Z"⟩
theorem dX10_isAccount_0 : decode cX10_isAccount 0 = .ok (.iload_n 1, 1) := by decide +kernel
theorem dX10_isAccount_1 : decode cX10_isAccount 1 = .ok (.bipush 10, 2) := by decide +kernel
theorem dX10_isAccount_3 : decode cX10_isAccount 3 = .ok (.if_icmp .lt 18, 3) := by decide +kernel
theorem dX10_isAccount_6 : decode cX10_isAccount 6 = .ok (.aload_n 0, 1) := by decide +kernel
theorem dX10_isAccount_7 : decode cX10_isAccount 7 = .ok (.iload_n 1, 1) := by decide +kernel
theorem dX10_isAccount_8 : decode cX10_isAccount 8 = .ok (.bipush 10, 2) := by decide +kernel
theorem dX10_isAccount_10 : decode cX10_isAccount 10 = .ok (.isub, 1) := by decide +kernel
theorem dX10_isAccount_11 : decode cX10_isAccount 11 = .ok (.invokevirtual 281, 3) := by decide +kernel
theorem dX10_isAccount_14 : decode cX10_isAccount 14 = .ok (.ifCond .eq 7, 3) := by decide +kernel
theorem dX10_isAccount_17 : decode cX10_isAccount 17 = .ok (.iconst 1, 1) := by decide +kernel
theorem dX10_isAccount_18 : decode cX10_isAccount 18 = .ok (.goto 4, 3) := by decide +kernel
theorem dX10_isAccount_21 : decode cX10_isAccount 21 = .ok (.iconst 0, 1) := by decide +kernel
theorem dX10_isAccount_22 : decode cX10_isAccount 22 = .ok (.ireturn, 1) := by decide +kernel
theorem q_839 : Cond.methodLink RX10 281 yX6_has ∈ zTB := zmem 839 (by decide +kernel) rfl
theorem k_RX10_281 : zLv RX10 281 RX6 yX6_has cX6_has 2 (some .boolean) 1 := ⟨⟨q_839, q_840, q_841, q_131, q_842⟩, rfl, ⟨by decide, by decide⟩, by decide +kernel⟩
def F_X10_isAccount (j : Nat) (X Y : Nat → Int → Int) (R : Nat → Int → Option Nat) (b : Int) : Prop := (∀ i j, rI (X i j)) → (∀ i j, rL (Y i j)) → ((b < 10) → (0 = bz (mIn (b) 10 (10 + X j 6 - 1)))) ∧ ((¬ (b < 10)) → ((((decide (0 ≤ ((zW (b - 10))) ∧ ((zW (b - 10))) < X j 6 ∧ ((zW (b - 10))) < 6)) = false) → (0 = bz (mIn (b) 10 (10 + X j 6 - 1)))) ∧ (((decide (0 ≤ ((zW (b - 10))) ∧ ((zW (b - 10))) < X j 6 ∧ ((zW (b - 10))) < 6)) = true) → (1 = bz (mIn (b) 10 (10 + X j 6 - 1))))))
set_option maxHeartbeats 4000000 in
set_option maxRecDepth 100000 in
theorem w_X10_isAccount {l : Launch} {D : va_G} {cy : Nat → ClassId} {bs N : Nat} {sa : Nat → Nat} {kd len : Nat → Nat} {X Y : Nat → Int → Int} {R : Nat → Int → Option Nat} {j : Nat} (hn : zNet N kd len R j) (b : Int) (hb : rI b) (hF : F_X10_isAccount j X Y R b) : Met l yX10_isAccount (.code yX10_isAccount cX10_isAccount 2 (some .boolean) :: zTB) (zRm 1 21) (zPc D cy bs sa N kd len X Y R [.ref (bs + (j)), .int (zI (b))]) (zQi D cy bs N kd len (fun r st => r = bz (mIn (b) 10 (10 + X j 6 - 1)) ∧ st = (X, Y, R))) 0 0 (zA bs) := by
  refine zstart (by decide) (Nat.le_of_ble_eq_true rfl) ?_
  intro p e s m args below meth c ls C hE hH hr hlk hnm hl hargs
  have hF := hF hH.2.2.1 hH.2.2.2
  have hS : va_S (zA bs) s.heap s.heap [] := va_S.rf
  have hl : lv_has ls 2 [(0, .ref (bs + (j))), (1, .int (zI (b)))] := hl
  refine lv_iload_n C.1 C.2.1 dX10_isAccount_0 rfl (lv_at hl 1 rfl) ?_
  refine zd_bipush C (by decide) dX10_isAccount_1 ?_
  refine zd_icmp_lt C hb (by decide) 21 dX10_isAccount_3 (by decide) (fun c1 => ?_) (fun c1 => ?_)
  · have hF := hF.1 c1
    refine zd_iconst C dX10_isAccount_21 ?_
    exact zd_zret C hr hlk hH hS (by decide) (⟨hF, rfl⟩) dX10_isAccount_22
  · have hF := hF.2 c1
    refine lv_aload_n C.1 C.2.1 dX10_isAccount_6 rfl (lv_at hl 0 rfl) ?_
    refine lv_iload_n C.1 C.2.1 dX10_isAccount_7 rfl (lv_at hl 1 rfl) ?_
    refine zd_bipush C (by decide) dX10_isAccount_8 ?_
    refine zd_isub C dX10_isAccount_10 ?_
    rw [show zI (b - 10) = zI (zW (b - 10)) from (zI_zW _).symm]
    refine zgoi (zrunV (As := [.int (zI (zW (b - 10)))]) (rest := []) C hE hH hS hl.1 (c_X6_has (l := l) hn (zW (b - 10)) (zW_rg _)) k_RX10_281 ⟨Nat.le_of_ble_eq_true rfl, Nat.le_of_ble_eq_true rfl⟩ (zNet_n0 hn) (zNet_k0 hn) rfl rfl rfl (Nat.le_of_ble_eq_true rfl) dX10_isAccount_11 ⟨Nat.zero_le _, Nat.zero_le _⟩) hS (fun rq Xq Yq Rq H locs hrq hq hH hS => ?_)
    obtain ⟨h91, h92⟩ := hq
    have h93 : Xq = X := congrArg (fun z => z.1) h92
    have h94 : Yq = Y := congrArg (fun z => z.2.1) h92
    have h95 : Rq = R := congrArg (fun z => z.2.2) h92
    rw [h93, h94, h95] at hH
    subst h91
    refine zd_ifB_eq C 21 dX10_isAccount_14 (by decide) (fun c2 => ?_) (fun c2 => ?_)
    · have hF := hF.1 c2
      refine zd_iconst C dX10_isAccount_21 ?_
      exact zd_zret C hr hlk hH hS (by decide) (⟨hF, rfl⟩) dX10_isAccount_22
    · have hF := hF.2 c2
      refine zd_iconst C dX10_isAccount_17 ?_
      refine lv_goto (tgt := 22) C.1 C.2.1 dX10_isAccount_18 (by decide) ?_
      exact zd_zret C hr hlk hH hS (by decide) (⟨hF, rfl⟩) dX10_isAccount_22
theorem v_X10_isAccount {X Y : Nat → Int → Int} {R : Nat → Int → Option Nat} {j : Nat} (b : Int) (hb : rI b) (hp : X j 6 ≤ 6) : F_X10_isAccount j X Y R b := by
  unfold F_X10_isAccount
  intro hX hY
  refine ⟨?_, ?_⟩
  · intro c1
    rw [mIn_f.mpr (by omega)]
    rfl
  intro c2
  refine ⟨?_, ?_⟩
  · intro c3
    have g := of_decide_eq_false c3
    have e : zW (b - 10) = b - 10 := zI_toInt ⟨by omega, by omega⟩
    rw [e] at g
    rw [mIn_f.mpr (by omega)]
    rfl
  intro c4
  have g := of_decide_eq_true c4
  have e : zW (b - 10) = b - 10 := zI_toInt ⟨by omega, by omega⟩
  rw [e] at g
  rw [mIn_t.mpr (by omega)]
  rfl
theorem c_X10_isAccount {l : Launch} {D : va_G} {cy : Nat → ClassId} {bs N : Nat} {sa : Nat → Nat} {kd len : Nat → Nat} {X Y : Nat → Int → Int} {R : Nat → Int → Option Nat} {j : Nat} (hn : zNet N kd len R j) (b : Int) (hb : rI b) (hp : X j 6 ≤ 6) : Met l yX10_isAccount (.code yX10_isAccount cX10_isAccount 2 (some .boolean) :: zTB) (zRm 1 21) (zPc D cy bs sa N kd len X Y R [.ref (bs + (j)), .int (zI (b))]) (zQi D cy bs N kd len (fun r st => r = bz (mIn (b) 10 (10 + X j 6 - 1)) ∧ st = (X, Y, R))) 0 0 (zA bs) := w_X10_isAccount hn b hb (v_X10_isAccount b hb hp)
abbrev cX10_weighFor : ByteArray := prog_1_method_23_code
def yX10_weighFor : MethodName := ⟨RX10, "weighFor", "(III)Z"⟩
theorem dX10_weighFor_0 : decode cX10_weighFor 0 = .ok (.aload_n 0, 1) := by decide +kernel
theorem dX10_weighFor_1 : decode cX10_weighFor 1 = .ok (.iload_n 1, 1) := by decide +kernel
theorem dX10_weighFor_2 : decode cX10_weighFor 2 = .ok (.iload_n 2, 1) := by decide +kernel
theorem dX10_weighFor_3 : decode cX10_weighFor 3 = .ok (.invokevirtual 202, 3) := by decide +kernel
theorem dX10_weighFor_6 : decode cX10_weighFor 6 = .ok (.ifCond .eq 21, 3) := by decide +kernel
theorem dX10_weighFor_9 : decode cX10_weighFor 9 = .ok (.aload_n 0, 1) := by decide +kernel
theorem dX10_weighFor_10 : decode cX10_weighFor 10 = .ok (.getfield 34, 3) := by decide +kernel
theorem dX10_weighFor_13 : decode cX10_weighFor 13 = .ok (.getfield 206, 3) := by decide +kernel
theorem dX10_weighFor_16 : decode cX10_weighFor 16 = .ok (.iload_n 3, 1) := by decide +kernel
theorem dX10_weighFor_17 : decode cX10_weighFor 17 = .ok (.invokevirtual 281, 3) := by decide +kernel
theorem dX10_weighFor_20 : decode cX10_weighFor 20 = .ok (.ifCond .eq 7, 3) := by decide +kernel
theorem dX10_weighFor_23 : decode cX10_weighFor 23 = .ok (.iconst 1, 1) := by decide +kernel
theorem dX10_weighFor_24 : decode cX10_weighFor 24 = .ok (.goto 4, 3) := by decide +kernel
theorem dX10_weighFor_27 : decode cX10_weighFor 27 = .ok (.iconst 0, 1) := by decide +kernel
theorem dX10_weighFor_28 : decode cX10_weighFor 28 = .ok (.ireturn, 1) := by decide +kernel
theorem q_893 : Cond.methodLink RX10 202 yX10_weigh ∈ zTB := zmem 893 (by decide +kernel) rfl
theorem q_895 : Cond.instanceMethod yX10_weigh ∈ zTB := zmem 895 (by decide +kernel) rfl
theorem q_14 : Cond.selects RX10 yX10_weigh yX10_weigh ∈ zTB := zmem 14 (by decide +kernel) rfl
theorem q_896 : Cond.code yX10_weigh cX10_weigh 5 (some .boolean) ∈ zTB := zmem 896 (by decide +kernel) rfl
theorem k_RX10_202 : zLv RX10 202 RX10 yX10_weigh cX10_weigh 5 (some .boolean) 2 := ⟨⟨q_893, q_895, q_14, q_129, q_896⟩, rfl, ⟨by decide, by decide⟩, by decide +kernel⟩
theorem q_393 : Cond.fieldLink RX10 206 RX1 "net" "LWorkChains$Net;" ∈ zTB := zmem 393 (by decide +kernel) rfl
def F_X10_weighFor (i : Nat) (Z : Nat → Int → Int) (q : Nat) (X Y : Nat → Int → Int) (R : Nat → Int → Option Nat) (a : Int) (b : Int) (g : Int) : Prop := (∀ i j, rI (X i j)) → (∀ i j, rL (Y i j)) → (wcQ Z q X i) ∧ (∀ r5 : Bool, ∀ X2 : Nat → Int → Int, (∀ i j, rI (X2 i j)) → ∀ Y3 : Nat → Int → Int, (∀ i j, rL (Y3 i j)) → ∀ R4 : Nat → Int → Option Nat, (((R4) = wgR Z q R i (a) (b)) ∧ r5 = rOk Z q (a) (b) ∧ (r5 = false → (X2) = X ∧ (Y3) = Y) ∧ (r5 = true → qK X (X2) i ∧ cA (hZ Z q (a) (b) 0) q (X2) (Y3) (R4) (i + 157) ∧ (X2) (cn (R4) (i + 157)) 3 = hZ Z q (a) (b) 0 q 28 ∧ (X2) (cn (R4) (i + 157)) 4 = hZ Z q (a) (b) 0 q 29)) → (((r5 = false) → (((R4) = wgR Z q R i (a) (b)) ∧ false = (rOk Z q (a) (b) && mIn (g) 0 (Z (q + 6) (13 * (a) + 6) - 1)) ∧ qK X (X2) i ∧ (false = true → cA (hZ Z q (a) (b) 0) q (X2) (Y3) (R4) (i + 157) ∧ (X2) (cn (R4) (i + 157)) 3 = hZ Z q (a) (b) 0 q 28))) ∧ ((r5 = true) → ((((decide (0 ≤ (g) ∧ (g) < X2 (cn R4 (i + 157)) 6 ∧ (g) < 6)) = false) → (((R4) = wgR Z q R i (a) (b)) ∧ false = (rOk Z q (a) (b) && mIn (g) 0 (Z (q + 6) (13 * (a) + 6) - 1)) ∧ qK X (X2) i ∧ (false = true → cA (hZ Z q (a) (b) 0) q (X2) (Y3) (R4) (i + 157) ∧ (X2) (cn (R4) (i + 157)) 3 = hZ Z q (a) (b) 0 q 28))) ∧ (((decide (0 ≤ (g) ∧ (g) < X2 (cn R4 (i + 157)) 6 ∧ (g) < 6)) = true) → (((R4) = wgR Z q R i (a) (b)) ∧ true = (rOk Z q (a) (b) && mIn (g) 0 (Z (q + 6) (13 * (a) + 6) - 1)) ∧ qK X (X2) i ∧ (true = true → cA (hZ Z q (a) (b) 0) q (X2) (Y3) (R4) (i + 157) ∧ (X2) (cn (R4) (i + 157)) 3 = hZ Z q (a) (b) 0 q 28)))))))
set_option maxHeartbeats 4000000 in
set_option maxRecDepth 100000 in
theorem w_X10_weighFor {l : Launch} {D : va_G} {cy : Nat → ClassId} {bs N : Nat} {sa : Nat → Nat} {kd len : Nat → Nat} {X Y : Nat → Int → Int} {R : Nat → Int → Option Nat} {i : Nat} {Z : Nat → Int → Int} {q : Nat} (hC : zWC N kd len R i) (a : Int) (ha : rI a) (b : Int) (hb : rI b) (g : Int) (hg : rI g) (hF : F_X10_weighFor i Z q X Y R a b g) : Met l yX10_weighFor (.code yX10_weighFor cX10_weighFor 4 (some .boolean) :: zTB) (zRm 5 134) (zPc D cy bs sa N kd len X Y R [.ref (bs + (i)), .int (zI (a)), .int (zI (b)), .int (zI (g))]) (zQi D cy bs N kd len (fun r st => ∃ rb : Bool, r = bz rb ∧ (((st.2.2) = wgR Z q R i (a) (b)) ∧ rb = (rOk Z q (a) (b) && mIn (g) 0 (Z (q + 6) (13 * (a) + 6) - 1)) ∧ qK X (st.1) i ∧ (rb = true → cA (hZ Z q (a) (b) 0) q (st.1) (st.2.1) (st.2.2) (i + 157) ∧ (st.1) (cn (st.2.2) (i + 157)) 3 = hZ Z q (a) (b) 0 q 28)))) 0 0 (zA bs) := by
  refine zstart (by decide) (Nat.le_of_ble_eq_true rfl) ?_
  intro p e s m args below meth c ls C hE hH hr hlk hnm hl hargs
  have hF := hF hH.2.2.1 hH.2.2.2
  have hS : va_S (zA bs) s.heap s.heap [] := va_S.rf
  have hl : lv_has ls 4 [(0, .ref (bs + (i))), (1, .int (zI (a))), (2, .int (zI (b))), (3, .int (zI (g)))] := hl
  refine lv_aload_n C.1 C.2.1 dX10_weighFor_0 rfl (lv_at hl 0 rfl) ?_
  refine lv_iload_n C.1 C.2.1 dX10_weighFor_1 rfl (lv_at hl 1 rfl) ?_
  refine lv_iload_n C.1 C.2.1 dX10_weighFor_2 rfl (lv_at hl 2 rfl) ?_
  obtain ⟨o1, hF⟩ := hF
  refine zgoi (zrunV (As := [.int (zI (a)), .int (zI (b))]) (rest := []) C hE hH hS hl.1 (c_X10_weigh (l := l) hC (a) ha (b) hb o1) k_RX10_202 ⟨Nat.le_of_ble_eq_true rfl, Nat.le_of_ble_eq_true rfl⟩ (zW_n hC) (zW_k hC) rfl rfl rfl (Nat.le_of_ble_eq_true rfl) dX10_weighFor_3 ⟨Nat.zero_le _, Nat.zero_le _⟩) hS (fun rq X2 Y3 R4 H locs hrq hq hH hS => ?_)
  obtain ⟨r5, h91, hq⟩ := hq
  subst h91
  have hF := hF r5 X2 hH.2.2.1 Y3 hH.2.2.2 R4 hq
  have hC := zWC_wg hC hq.1
  refine zd_ifB_eq C 27 dX10_weighFor_6 (by decide) (fun c6 => ?_) (fun c6 => ?_)
  · have hF := hF.1 c6
    refine zd_iconst C dX10_weighFor_27 ?_
    exact zd_zret C hr hlk hH hS (by decide) (⟨_, rfl, hF⟩) dX10_weighFor_28
  · have hF := hF.2 c6
    refine lv_aload_n C.1 C.2.1 dX10_weighFor_9 rfl (lv_at hl 0 rfl) ?_
    refine zg10_4 C hH (zW_n hC) (zW_k hC) q_573 (zW_lw hC).1 dX10_weighFor_10 ?_
    refine zg1_0 C hH (zChart_n0 (zW_lw hC).2.2.2.1.1) (zChart_k0 (zW_lw hC).2.2.2.1.1) q_393 (zChart_net (zW_lw hC).2.2.2.1.1).1 dX10_weighFor_13 ?_
    refine lv_iload_n C.1 C.2.1 dX10_weighFor_16 rfl (lv_at hl 3 rfl) ?_
    refine zgoi (zrunV (As := [.int (zI (g))]) (rest := []) C hE hH hS hl.1 (c_X6_has (l := l) (zChart_net (zW_lw hC).2.2.2.1.1).2 (g) hg) k_RX10_281 ⟨Nat.le_of_ble_eq_true rfl, Nat.le_of_ble_eq_true rfl⟩ (zNet_n0 (zChart_net (zW_lw hC).2.2.2.1.1).2) (zNet_k0 (zChart_net (zW_lw hC).2.2.2.1.1).2) rfl rfl rfl (Nat.le_of_ble_eq_true rfl) dX10_weighFor_17 ⟨Nat.zero_le _, Nat.zero_le _⟩) hS (fun rq Xq Yq Rq H locs hrq hq hH hS => ?_)
    obtain ⟨h91, h92⟩ := hq
    have h93 : Xq = X2 := congrArg (fun z => z.1) h92
    have h94 : Yq = Y3 := congrArg (fun z => z.2.1) h92
    have h95 : Rq = R4 := congrArg (fun z => z.2.2) h92
    rw [h93, h94, h95] at hH
    subst h91
    refine zd_ifB_eq C 27 dX10_weighFor_20 (by decide) (fun c7 => ?_) (fun c7 => ?_)
    · have hF := hF.1 c7
      refine zd_iconst C dX10_weighFor_27 ?_
      exact zd_zret C hr hlk hH hS (by decide) (⟨_, rfl, hF⟩) dX10_weighFor_28
    · have hF := hF.2 c7
      refine zd_iconst C dX10_weighFor_23 ?_
      refine lv_goto (tgt := 28) C.1 C.2.1 dX10_weighFor_24 (by decide) ?_
      exact zd_zret C hr hlk hH hS (by decide) (⟨_, rfl, hF⟩) dX10_weighFor_28
theorem v_X10_weighFor {X Y : Nat → Int → Int} {R : Nat → Int → Option Nat} {i : Nat} {Z : Nat → Int → Int} {q : Nat} (a : Int) (ha : rI a) (b : Int) (hb : rI b) (g : Int) (hg : rI g) (hp : wcQ Z q X i) : F_X10_weighFor i Z q X Y R a b g := by
  unfold F_X10_weighFor
  intro hX hY
  refine ⟨?_, ?_⟩
  · exact hp
  intro r5
  intro X2
  intro rX2
  intro Y3
  intro rY3
  intro R4
  intro h1
  obtain ⟨eR, er, hf, ht⟩ := h1
  refine ⟨?_, ?_⟩
  · intro c1
    obtain ⟨rfl, rfl⟩ := hf c1
    have e : rOk Z q a b = false := by rw [← er]; exact c1
    have hk : qK X2 X2 i := ⟨fun _ _ => rfl, hp.2.2⟩
    exact ⟨eR, by rw [e]; rfl, hk, (fun g => by cases g)⟩
  intro c2
  obtain ⟨hk, hA, h3, h4⟩ := ht c2
  have e : rOk Z q a b = true := by rw [← er]; exact c2
  have l := cA_l hA
  have b0 := cA_b hA
  have a6 := cA_a hA
  have e27 := hz_27 (Z := Z) (q := q) (n := a) (c := b) (f := 0)
  have e26 := hz_26 (Z := Z) (q := q) (n := a) (c := b) (f := 0)
  refine ⟨?_, ?_⟩
  · intro c3
    have c3 := of_decide_eq_false c3
    exact ⟨eR, by rw [e, mIn_f.mpr (by omega)]; rfl, hk, (fun g => by cases g)⟩
  intro c4
  have c4 := of_decide_eq_true c4
  exact ⟨eR, by rw [e, mIn_t.mpr (by omega)]; rfl, hk, fun _ => ⟨hA, h3⟩⟩
theorem c_X10_weighFor {l : Launch} {D : va_G} {cy : Nat → ClassId} {bs N : Nat} {sa : Nat → Nat} {kd len : Nat → Nat} {X Y : Nat → Int → Int} {R : Nat → Int → Option Nat} {i : Nat} {Z : Nat → Int → Int} {q : Nat} (hC : zWC N kd len R i) (a : Int) (ha : rI a) (b : Int) (hb : rI b) (g : Int) (hg : rI g) (hp : wcQ Z q X i) : Met l yX10_weighFor (.code yX10_weighFor cX10_weighFor 4 (some .boolean) :: zTB) (zRm 5 134) (zPc D cy bs sa N kd len X Y R [.ref (bs + (i)), .int (zI (a)), .int (zI (b)), .int (zI (g))]) (zQi D cy bs N kd len (fun r st => ∃ rb : Bool, r = bz rb ∧ (((st.2.2) = wgR Z q R i (a) (b)) ∧ rb = (rOk Z q (a) (b) && mIn (g) 0 (Z (q + 6) (13 * (a) + 6) - 1)) ∧ qK X (st.1) i ∧ (rb = true → cA (hZ Z q (a) (b) 0) q (st.1) (st.2.1) (st.2.2) (i + 157) ∧ (st.1) (cn (st.2.2) (i + 157)) 3 = hZ Z q (a) (b) 0 q 28)))) 0 0 (zA bs) := w_X10_weighFor hC a ha b hb g hg (v_X10_weighFor a ha b hb g hg hp)
abbrev cX10_work : ByteArray := prog_1_method_25_code
def yX10_work : MethodName := ⟨RX10, "work", "(IIII)J"⟩
theorem dX10_work_0 : decode cX10_work 0 = .ok (.aload_n 0, 1) := by decide +kernel
theorem dX10_work_1 : decode cX10_work 1 = .ok (.iload_n 1, 1) := by decide +kernel
theorem dX10_work_2 : decode cX10_work 2 = .ok (.iload_n 2, 1) := by decide +kernel
theorem dX10_work_3 : decode cX10_work 3 = .ok (.invokevirtual 202, 3) := by decide +kernel
theorem dX10_work_6 : decode cX10_work 6 = .ok (.ifCond .eq 17, 3) := by decide +kernel
theorem dX10_work_9 : decode cX10_work 9 = .ok (.aload_n 0, 1) := by decide +kernel
theorem dX10_work_10 : decode cX10_work 10 = .ok (.getfield 34, 3) := by decide +kernel
theorem dX10_work_13 : decode cX10_work 13 = .ok (.getfield 282, 3) := by decide +kernel
theorem dX10_work_16 : decode cX10_work 16 = .ok (.iload_n 3, 1) := by decide +kernel
theorem dX10_work_17 : decode cX10_work 17 = .ok (.invokevirtual 153, 3) := by decide +kernel
theorem dX10_work_20 : decode cX10_work 20 = .ok (.ifCond .ne 7, 3) := by decide +kernel
theorem dX10_work_23 : decode cX10_work 23 = .ok (.ldc2_w 286, 3) := by decide +kernel
theorem dX10_work_26 : decode cX10_work 26 = .ok (.lreturn, 1) := by decide +kernel
theorem dX10_work_27 : decode cX10_work 27 = .ok (.iload 4, 2) := by decide +kernel
theorem dX10_work_29 : decode cX10_work 29 = .ok (.tableswitch 109 0 4 #[35, 46, 56, 66, 92], 35) := by decide +kernel
theorem dX10_work_64 : decode cX10_work 64 = .ok (.aload_n 0, 1) := by decide +kernel
theorem dX10_work_65 : decode cX10_work 65 = .ok (.getfield 34, 3) := by decide +kernel
theorem dX10_work_68 : decode cX10_work 68 = .ok (.getfield 228, 3) := by decide +kernel
theorem dX10_work_71 : decode cX10_work 71 = .ok (.iload_n 3, 1) := by decide +kernel
theorem dX10_work_72 : decode cX10_work 72 = .ok (.iaload, 1) := by decide +kernel
theorem dX10_work_73 : decode cX10_work 73 = .ok (.i2l, 1) := by decide +kernel
theorem dX10_work_74 : decode cX10_work 74 = .ok (.lreturn, 1) := by decide +kernel
theorem dX10_work_75 : decode cX10_work 75 = .ok (.aload_n 0, 1) := by decide +kernel
theorem dX10_work_76 : decode cX10_work 76 = .ok (.getfield 34, 3) := by decide +kernel
theorem dX10_work_79 : decode cX10_work 79 = .ok (.getfield 288, 3) := by decide +kernel
theorem dX10_work_82 : decode cX10_work 82 = .ok (.iload_n 3, 1) := by decide +kernel
theorem dX10_work_83 : decode cX10_work 83 = .ok (.laload, 1) := by decide +kernel
theorem dX10_work_84 : decode cX10_work 84 = .ok (.lreturn, 1) := by decide +kernel
theorem dX10_work_85 : decode cX10_work 85 = .ok (.aload_n 0, 1) := by decide +kernel
theorem dX10_work_86 : decode cX10_work 86 = .ok (.getfield 34, 3) := by decide +kernel
theorem dX10_work_89 : decode cX10_work 89 = .ok (.getfield 292, 3) := by decide +kernel
theorem dX10_work_92 : decode cX10_work 92 = .ok (.iload_n 3, 1) := by decide +kernel
theorem dX10_work_93 : decode cX10_work 93 = .ok (.laload, 1) := by decide +kernel
theorem dX10_work_94 : decode cX10_work 94 = .ok (.lreturn, 1) := by decide +kernel
theorem dX10_work_95 : decode cX10_work 95 = .ok (.aload_n 0, 1) := by decide +kernel
theorem dX10_work_96 : decode cX10_work 96 = .ok (.getfield 34, 3) := by decide +kernel
theorem dX10_work_99 : decode cX10_work 99 = .ok (.iload_n 3, 1) := by decide +kernel
theorem dX10_work_100 : decode cX10_work 100 = .ok (.invokevirtual 295, 3) := by decide +kernel
theorem dX10_work_103 : decode cX10_work 103 = .ok (.ifCond .eq 14, 3) := by decide +kernel
theorem dX10_work_106 : decode cX10_work 106 = .ok (.aload_n 0, 1) := by decide +kernel
theorem dX10_work_107 : decode cX10_work 107 = .ok (.getfield 34, 3) := by decide +kernel
theorem dX10_work_110 : decode cX10_work 110 = .ok (.iload_n 3, 1) := by decide +kernel
theorem dX10_work_111 : decode cX10_work 111 = .ok (.invokevirtual 298, 3) := by decide +kernel
theorem dX10_work_114 : decode cX10_work 114 = .ok (.goto 6, 3) := by decide +kernel
theorem dX10_work_117 : decode cX10_work 117 = .ok (.ldc2_w 286, 3) := by decide +kernel
theorem dX10_work_120 : decode cX10_work 120 = .ok (.lreturn, 1) := by decide +kernel
theorem dX10_work_121 : decode cX10_work 121 = .ok (.aload_n 0, 1) := by decide +kernel
theorem dX10_work_122 : decode cX10_work 122 = .ok (.getfield 34, 3) := by decide +kernel
theorem dX10_work_125 : decode cX10_work 125 = .ok (.iload_n 3, 1) := by decide +kernel
theorem dX10_work_126 : decode cX10_work 126 = .ok (.invokevirtual 295, 3) := by decide +kernel
theorem dX10_work_129 : decode cX10_work 129 = .ok (.ifCond .eq 7, 3) := by decide +kernel
theorem dX10_work_132 : decode cX10_work 132 = .ok (.lconst 1, 1) := by decide +kernel
theorem dX10_work_133 : decode cX10_work 133 = .ok (.goto 4, 3) := by decide +kernel
theorem dX10_work_136 : decode cX10_work 136 = .ok (.lconst 0, 1) := by decide +kernel
theorem dX10_work_137 : decode cX10_work 137 = .ok (.lreturn, 1) := by decide +kernel
theorem dX10_work_138 : decode cX10_work 138 = .ok (.aload_n 0, 1) := by decide +kernel
theorem dX10_work_139 : decode cX10_work 139 = .ok (.getfield 34, 3) := by decide +kernel
theorem dX10_work_142 : decode cX10_work 142 = .ok (.iload_n 3, 1) := by decide +kernel
theorem dX10_work_143 : decode cX10_work 143 = .ok (.invokevirtual 295, 3) := by decide +kernel
theorem dX10_work_146 : decode cX10_work 146 = .ok (.ifCond .eq 22, 3) := by decide +kernel
theorem dX10_work_149 : decode cX10_work 149 = .ok (.aload_n 0, 1) := by decide +kernel
theorem dX10_work_150 : decode cX10_work 150 = .ok (.getfield 34, 3) := by decide +kernel
theorem dX10_work_153 : decode cX10_work 153 = .ok (.getfield 206, 3) := by decide +kernel
theorem dX10_work_156 : decode cX10_work 156 = .ok (.iload 4, 2) := by decide +kernel
theorem dX10_work_158 : decode cX10_work 158 = .ok (.invokestatic 137, 3) := by decide +kernel
theorem dX10_work_161 : decode cX10_work 161 = .ok (.ifCond .eq 7, 3) := by decide +kernel
theorem dX10_work_164 : decode cX10_work 164 = .ok (.iconst 1, 1) := by decide +kernel
theorem dX10_work_165 : decode cX10_work 165 = .ok (.goto 4, 3) := by decide +kernel
theorem dX10_work_168 : decode cX10_work 168 = .ok (.iconst 0, 1) := by decide +kernel
theorem dX10_work_169 : decode cX10_work 169 = .ok (.istore 5, 2) := by decide +kernel
theorem dX10_work_171 : decode cX10_work 171 = .ok (.iload 5, 2) := by decide +kernel
theorem dX10_work_173 : decode cX10_work 173 = .ok (.ifCond .eq 25, 3) := by decide +kernel
theorem dX10_work_176 : decode cX10_work 176 = .ok (.aload_n 0, 1) := by decide +kernel
theorem dX10_work_177 : decode cX10_work 177 = .ok (.getfield 34, 3) := by decide +kernel
theorem dX10_work_180 : decode cX10_work 180 = .ok (.getfield 251, 3) := by decide +kernel
theorem dX10_work_183 : decode cX10_work 183 = .ok (.iload_n 3, 1) := by decide +kernel
theorem dX10_work_184 : decode cX10_work 184 = .ok (.aaload, 1) := by decide +kernel
theorem dX10_work_185 : decode cX10_work 185 = .ok (.getfield 255, 3) := by decide +kernel
theorem dX10_work_188 : decode cX10_work 188 = .ok (.iload 4, 2) := by decide +kernel
theorem dX10_work_190 : decode cX10_work 190 = .ok (.bipush 10, 2) := by decide +kernel
theorem dX10_work_192 : decode cX10_work 192 = .ok (.isub, 1) := by decide +kernel
theorem dX10_work_193 : decode cX10_work 193 = .ok (.iaload, 1) := by decide +kernel
theorem dX10_work_194 : decode cX10_work 194 = .ok (.i2l, 1) := by decide +kernel
theorem dX10_work_195 : decode cX10_work 195 = .ok (.goto 6, 3) := by decide +kernel
theorem dX10_work_198 : decode cX10_work 198 = .ok (.ldc2_w 286, 3) := by decide +kernel
theorem dX10_work_201 : decode cX10_work 201 = .ok (.lreturn, 1) := by decide +kernel
theorem q_1048 : Cond.constantLong RX10 286 (zL (-1)) ∈ zTB := zmem 1048 (by decide +kernel) rfl
theorem q_395 : Cond.fieldLink RX10 282 RX1 "blocks" "LWorkChains$Blocks;" ∈ zTB := zmem 395 (by decide +kernel) rfl
theorem q_851 : Cond.methodLink RX10 153 yX0_has ∈ zTB := zmem 851 (by decide +kernel) rfl
theorem q_852 : Cond.instanceMethod yX0_has ∈ zTB := zmem 852 (by decide +kernel) rfl
theorem q_853 : Cond.selects RX0 yX0_has yX0_has ∈ zTB := zmem 853 (by decide +kernel) rfl
theorem q_854 : Cond.code yX0_has cX0_has 2 (some .boolean) ∈ zTB := zmem 854 (by decide +kernel) rfl
theorem k_RX10_153 : zLv RX10 153 RX0 yX0_has cX0_has 2 (some .boolean) 1 := ⟨⟨q_851, q_852, q_853, q_132, q_854⟩, rfl, ⟨by decide, by decide⟩, by decide +kernel⟩
theorem q_408 : Cond.fieldLink RX10 228 RX1 "height" "[I" ∈ zTB := zmem 408 (by decide +kernel) rfl
theorem q_410 : Cond.fieldLink RX10 288 RX1 "work" "[J" ∈ zTB := zmem 410 (by decide +kernel) rfl
theorem q_412 : Cond.fieldLink RX10 292 RX1 "weight" "[J" ∈ zTB := zmem 412 (by decide +kernel) rfl
theorem q_1049 : Cond.methodLink RX10 295 yX1_isSound ∈ zTB := zmem 1049 (by decide +kernel) rfl
theorem k_RX10_295 : zLv RX10 295 RX1 yX1_isSound cX1_isSound 2 (some .boolean) 1 := ⟨⟨q_1049, q_932, q_933, q_135, q_934⟩, rfl, ⟨by decide, by decide⟩, by decide +kernel⟩
theorem q_1050 : Cond.methodLink RX10 298 yX1_subtree ∈ zTB := zmem 1050 (by decide +kernel) rfl
theorem q_1051 : Cond.instanceMethod yX1_subtree ∈ zTB := zmem 1051 (by decide +kernel) rfl
theorem q_1052 : Cond.selects RX1 yX1_subtree yX1_subtree ∈ zTB := zmem 1052 (by decide +kernel) rfl
theorem q_1053 : Cond.code yX1_subtree cX1_subtree 2 (some .long) ∈ zTB := zmem 1053 (by decide +kernel) rfl
theorem k_RX10_298 : zLv RX10 298 RX1 yX1_subtree cX1_subtree 2 (some .long) 1 := ⟨⟨q_1050, q_1051, q_1052, q_135, q_1053⟩, rfl, ⟨by decide, by decide⟩, by decide +kernel⟩
theorem q_837 : Cond.static yX10_isAccount ∈ zTB := zmem 837 (by decide +kernel) rfl
theorem q_838 : Cond.code yX10_isAccount cX10_isAccount 2 (some .boolean) ∈ zTB := zmem 838 (by decide +kernel) rfl
theorem q_836 : Cond.methodLink RX10 137 yX10_isAccount ∈ zTB := zmem 836 (by decide +kernel) rfl
theorem k_RX10_137 : zLs RX10 137 yX10_isAccount cX10_isAccount 2 (some .boolean) 2 := ⟨⟨q_836, q_837, q_129, q_838⟩, ⟨by decide, by decide⟩, by decide +kernel⟩
theorem q_414 : Cond.fieldLink RX10 251 RX1 "ledgers" "[LWorkChains$Ledger;" ∈ zTB := zmem 414 (by decide +kernel) rfl
theorem q_385 : Cond.fieldLink RX10 255 RX5 "in" "[I" ∈ zTB := zmem 385 (by decide +kernel) rfl
def F_X10_work (i : Nat) (Z : Nat → Int → Int) (q : Nat) (X Y : Nat → Int → Int) (R : Nat → Int → Option Nat) (a : Int) (b : Int) (g : Int) (d : Int) : Prop := (∀ i j, rI (X i j)) → (∀ i j, rL (Y i j)) → (wcQ Z q X i) ∧ (∀ r5 : Bool, ∀ X2 : Nat → Int → Int, (∀ i j, rI (X2 i j)) → ∀ Y3 : Nat → Int → Int, (∀ i j, rL (Y3 i j)) → ∀ R4 : Nat → Int → Option Nat, (((R4) = wgR Z q R i (a) (b)) ∧ r5 = rOk Z q (a) (b) ∧ (r5 = false → (X2) = X ∧ (Y3) = Y) ∧ (r5 = true → qK X (X2) i ∧ cA (hZ Z q (a) (b) 0) q (X2) (Y3) (R4) (i + 157) ∧ (X2) (cn (R4) (i + 157)) 3 = hZ Z q (a) (b) 0 q 28 ∧ (X2) (cn (R4) (i + 157)) 4 = hZ Z q (a) (b) 0 q 29)) → (((r5 = false) → (((R4) = wgR Z q R i (a) (b)) ∧ (-1) = rWork Z q (a) (b) (g) (d) ∧ qK X (X2) i)) ∧ ((r5 = true) → ((((decide (0 ≤ (g) ∧ (g) ≤ X2 (cb R4 (i + 157)) 0 ∧ (g) < 15)) = true) → ((d = 0 → ((0 ≤ g ∧ g < 15) ∧ (((R4) = wgR Z q R i (a) (b)) ∧ (X2 (i + 168) (g)) = rWork Z q (a) (b) (g) (d) ∧ qK X (X2) i))) ∧ (d = 1 → ((0 ≤ g ∧ g < 15) ∧ (((R4) = wgR Z q R i (a) (b)) ∧ (Y3 (i + 169) (g)) = rWork Z q (a) (b) (g) (d) ∧ qK X (X2) i))) ∧ (d = 2 → ((0 ≤ g ∧ g < 15) ∧ (((R4) = wgR Z q R i (a) (b)) ∧ (Y3 (i + 170) (g)) = rWork Z q (a) (b) (g) (d) ∧ qK X (X2) i))) ∧ (d = 3 → ((X2 (i + 157) 2 ≤ 14) ∧ ((((soE X2 (i + 157) (g)) = false) → (((R4) = wgR Z q R i (a) (b)) ∧ (-1) = rWork Z q (a) (b) (g) (d) ∧ qK X (X2) i)) ∧ (((soE X2 (i + 157) (g)) = true) → ((cA (hZ Z q a b 0) q X2 Y3 R4 (i + 157) ∧ 0 ≤ (g) ∧ (g) < (hZ Z q a b 0) q 27) ∧ (∀ r16 : Int, rL r16 → ∀ Y15 : Nat → Int → Int, (∀ i j, rL (Y15 i j)) → (fvK X2 X2 Y3 (Y15) (i + 157) ∧ (sdf (hZ Z q a b 0) q (g).toNat = true → r16 = sSb (rP (hZ Z q a b 0) q) (rW (hZ Z q a b 0) q) (sdf (hZ Z q a b 0) q) ((hZ Z q a b 0) q 27).toNat (g).toNat)) → (((R4) = wgR Z q R i (a) (b)) ∧ r16 = rWork Z q (a) (b) (g) (d) ∧ qK X (X2) i))))))) ∧ (d = 4 → ((X2 (i + 157) 2 ≤ 14) ∧ ((((soE X2 (i + 157) (g)) = false) → (((R4) = wgR Z q R i (a) (b)) ∧ 0 = rWork Z q (a) (b) (g) (d) ∧ qK X (X2) i)) ∧ (((soE X2 (i + 157) (g)) = true) → (((R4) = wgR Z q R i (a) (b)) ∧ 1 = rWork Z q (a) (b) (g) (d) ∧ qK X (X2) i))))) ∧ ((d < 0 ∨ 4 < d) → ((X2 (i + 157) 2 ≤ 14) ∧ ((((soE X2 (i + 157) (g)) = false) → (((R4) = wgR Z q R i (a) (b)) ∧ (-1) = rWork Z q (a) (b) (g) (d) ∧ qK X (X2) i)) ∧ (((soE X2 (i + 157) (g)) = true) → ((X2 (cn R4 (i + 157)) 6 ≤ 6) ∧ ((((mIn (d) 10 (10 + X2 (cn R4 (i + 157)) 6 - 1)) = false) → (((R4) = wgR Z q R i (a) (b)) ∧ (-1) = rWork Z q (a) (b) (g) (d) ∧ qK X (X2) i)) ∧ (((mIn (d) 10 (10 + X2 (cn R4 (i + 157)) 6 - 1)) = true) → ((0 ≤ g ∧ g < 15) ∧ ((0 ≤ (zW (d - 10)) ∧ (zW (d - 10)) < 6) ∧ (((R4) = wgR Z q R i (a) (b)) ∧ (X2 (i + 174 + 2 * (g : Int).toNat + 1) (zW (d - 10))) = rWork Z q (a) (b) (g) (d) ∧ qK X (X2) i)))))))))))) ∧ (((decide (0 ≤ (g) ∧ (g) ≤ X2 (cb R4 (i + 157)) 0 ∧ (g) < 15)) = false) → (((R4) = wgR Z q R i (a) (b)) ∧ (-1) = rWork Z q (a) (b) (g) (d) ∧ qK X (X2) i))))))
set_option maxHeartbeats 4000000 in
set_option maxRecDepth 100000 in
theorem w_X10_work {l : Launch} {D : va_G} {cy : Nat → ClassId} {bs N : Nat} {sa : Nat → Nat} {kd len : Nat → Nat} {X Y : Nat → Int → Int} {R : Nat → Int → Option Nat} {i : Nat} {Z : Nat → Int → Int} {q : Nat} (hC : zWC N kd len R i) (a : Int) (ha : rI a) (b : Int) (hb : rI b) (g : Int) (hg : rI g) (d : Int) (hd : rI d) (hF : F_X10_work i Z q X Y R a b g d) : Met l yX10_work (.code yX10_work cX10_work 6 (some .long) :: zTB) (zRm 5 134) (zPc D cy bs sa N kd len X Y R [.ref (bs + (i)), .int (zI (a)), .int (zI (b)), .int (zI (g)), .int (zI (d))]) (zQl D cy bs N kd len (fun r st => (((st.2.2) = wgR Z q R i (a) (b)) ∧ r = rWork Z q (a) (b) (g) (d) ∧ qK X (st.1) i))) 0 0 (zA bs) := by
  refine zstart (by decide) (Nat.le_of_ble_eq_true rfl) ?_
  intro p e s m args below meth c ls C hE hH hr hlk hnm hl hargs
  have hF := hF hH.2.2.1 hH.2.2.2
  have hS : va_S (zA bs) s.heap s.heap [] := va_S.rf
  have hl : lv_has ls 6 [(0, .ref (bs + (i))), (1, .int (zI (a))), (2, .int (zI (b))), (3, .int (zI (g))), (4, .int (zI (d)))] := hl
  refine lv_aload_n C.1 C.2.1 dX10_work_0 rfl (lv_at hl 0 rfl) ?_
  refine lv_iload_n C.1 C.2.1 dX10_work_1 rfl (lv_at hl 1 rfl) ?_
  refine lv_iload_n C.1 C.2.1 dX10_work_2 rfl (lv_at hl 2 rfl) ?_
  obtain ⟨o1, hF⟩ := hF
  refine zgoi (zrunV (As := [.int (zI (a)), .int (zI (b))]) (rest := []) C hE hH hS hl.1 (c_X10_weigh (l := l) hC (a) ha (b) hb o1) k_RX10_202 ⟨Nat.le_of_ble_eq_true rfl, Nat.le_of_ble_eq_true rfl⟩ (zW_n hC) (zW_k hC) rfl rfl rfl (Nat.le_of_ble_eq_true rfl) dX10_work_3 ⟨Nat.zero_le _, Nat.zero_le _⟩) hS (fun rq X2 Y3 R4 H locs hrq hq hH hS => ?_)
  obtain ⟨r5, h91, hq⟩ := hq
  subst h91
  have hF := hF r5 X2 hH.2.2.1 Y3 hH.2.2.2 R4 hq
  have hC := zWC_wg hC hq.1
  refine zd_ifB_eq C 23 dX10_work_6 (by decide) (fun c6 => ?_) (fun c6 => ?_)
  · have hF := hF.1 c6
    refine lv_ldc2 (v := zL (-1)) C.1 C.2.1 C.2.2.2.1 (C.2.2.2.2.1 _ q_1048) dX10_work_23 ?_
    exact zd_lret C hr hlk hH hS (by decide) (hF) dX10_work_26
  · have hF := hF.2 c6
    refine lv_aload_n C.1 C.2.1 dX10_work_9 rfl (lv_at hl 0 rfl) ?_
    refine zg10_4 C hH (zW_n hC) (zW_k hC) q_573 (zW_lw hC).1 dX10_work_10 ?_
    refine zg1_1 C hH (zChart_n0 (zW_lw hC).2.2.2.1.1) (zChart_k0 (zW_lw hC).2.2.2.1.1) q_395 (zChart_blk (zW_lw hC).2.2.2.1.1).1 dX10_work_13 ?_
    refine lv_iload_n C.1 C.2.1 dX10_work_16 rfl (lv_at hl 3 rfl) ?_
    refine zgoi (zrunV (As := [.int (zI (g))]) (rest := []) C hE hH hS hl.1 (c_X0_has (l := l) (zChart_blk (zW_lw hC).2.2.2.1.1).2 (g) hg) k_RX10_153 ⟨Nat.le_of_ble_eq_true rfl, Nat.le_of_ble_eq_true rfl⟩ (zBlocks_n0 (zChart_blk (zW_lw hC).2.2.2.1.1).2) (zBlocks_k0 (zChart_blk (zW_lw hC).2.2.2.1.1).2) rfl rfl rfl (Nat.le_of_ble_eq_true rfl) dX10_work_17 ⟨Nat.zero_le _, Nat.zero_le _⟩) hS (fun rq Xq Yq Rq H locs hrq hq hH hS => ?_)
    obtain ⟨h91, h92⟩ := hq
    have h93 : Xq = X2 := congrArg (fun z => z.1) h92
    have h94 : Yq = Y3 := congrArg (fun z => z.2.1) h92
    have h95 : Rq = R4 := congrArg (fun z => z.2.2) h92
    rw [h93, h94, h95] at hH
    subst h91
    refine zd_ifB_ne C 27 dX10_work_20 (by decide) (fun c7 => ?_) (fun c7 => ?_)
    · have hF := hF.1 c7
      refine lv_iload C.1 C.2.1 dX10_work_27 (lv_at hl 4 rfl) ?_
      by_cases c8_0 : d = 0
      · have hF := hF.1 c8_0
        refine zd_tabI C hd 64 (0) c8_0 dX10_work_29 (by decide) (by decide) rfl (by decide) ?_
        refine lv_aload_n C.1 C.2.1 dX10_work_64 rfl (lv_at hl 0 rfl) ?_
        refine zg10_4 C hH (zW_n hC) (zW_k hC) q_573 (zW_lw hC).1 dX10_work_65 ?_
        refine zg1_6 C hH (zChart_n0 (zW_lw hC).2.2.2.1.1) (zChart_k0 (zW_lw hC).2.2.2.1.1) q_408 (zChart_r11 (zW_lw hC).2.2.2.1.1) dX10_work_68 ?_
        refine lv_iload_n C.1 C.2.1 dX10_work_71 rfl (lv_at hl 3 rfl) ?_
        obtain ⟨o9, hF⟩ := hF
        refine zd_iald C hH (zChart_n11 (zW_lw hC).2.2.2.1.1) (zChart_k11 (zW_lw hC).2.2.2.1.1) o9.1 (by rw [zChart_l11 (zW_lw hC).2.2.2.1.1]; exact o9.2) (by rw [zChart_l11 (zW_lw hC).2.2.2.1.1]; decide) dX10_work_72 ?_
        refine zd_i2l C (hH.2.2.1 _ _) dX10_work_73 ?_
        exact zd_lret C hr hlk hH hS (rI_rL (hH.2.2.1 _ _)) (hF) dX10_work_74
      · have hF := hF.2
        by_cases c8_1 : d = 1
        · have hF := hF.1 c8_1
          refine zd_tabI C hd 75 (1) c8_1 dX10_work_29 (by decide) (by decide) rfl (by decide) ?_
          refine lv_aload_n C.1 C.2.1 dX10_work_75 rfl (lv_at hl 0 rfl) ?_
          refine zg10_4 C hH (zW_n hC) (zW_k hC) q_573 (zW_lw hC).1 dX10_work_76 ?_
          refine zg1_7 C hH (zChart_n0 (zW_lw hC).2.2.2.1.1) (zChart_k0 (zW_lw hC).2.2.2.1.1) q_410 (zChart_r12 (zW_lw hC).2.2.2.1.1) dX10_work_79 ?_
          refine lv_iload_n C.1 C.2.1 dX10_work_82 rfl (lv_at hl 3 rfl) ?_
          obtain ⟨o10, hF⟩ := hF
          refine zd_lald C hH (zChart_n12 (zW_lw hC).2.2.2.1.1) (zChart_k12 (zW_lw hC).2.2.2.1.1) o10.1 (by rw [zChart_l12 (zW_lw hC).2.2.2.1.1]; exact o10.2) (by rw [zChart_l12 (zW_lw hC).2.2.2.1.1]; decide) dX10_work_83 ?_
          exact zd_lret C hr hlk hH hS (hH.2.2.2 _ _) (hF) dX10_work_84
        · have hF := hF.2
          by_cases c8_2 : d = 2
          · have hF := hF.1 c8_2
            refine zd_tabI C hd 85 (2) c8_2 dX10_work_29 (by decide) (by decide) rfl (by decide) ?_
            refine lv_aload_n C.1 C.2.1 dX10_work_85 rfl (lv_at hl 0 rfl) ?_
            refine zg10_4 C hH (zW_n hC) (zW_k hC) q_573 (zW_lw hC).1 dX10_work_86 ?_
            refine zg1_8 C hH (zChart_n0 (zW_lw hC).2.2.2.1.1) (zChart_k0 (zW_lw hC).2.2.2.1.1) q_412 (zChart_r13 (zW_lw hC).2.2.2.1.1) dX10_work_89 ?_
            refine lv_iload_n C.1 C.2.1 dX10_work_92 rfl (lv_at hl 3 rfl) ?_
            obtain ⟨o11, hF⟩ := hF
            refine zd_lald C hH (zChart_n13 (zW_lw hC).2.2.2.1.1) (zChart_k13 (zW_lw hC).2.2.2.1.1) o11.1 (by rw [zChart_l13 (zW_lw hC).2.2.2.1.1]; exact o11.2) (by rw [zChart_l13 (zW_lw hC).2.2.2.1.1]; decide) dX10_work_93 ?_
            exact zd_lret C hr hlk hH hS (hH.2.2.2 _ _) (hF) dX10_work_94
          · have hF := hF.2
            by_cases c8_3 : d = 3
            · have hF := hF.1 c8_3
              refine zd_tabI C hd 95 (3) c8_3 dX10_work_29 (by decide) (by decide) rfl (by decide) ?_
              refine lv_aload_n C.1 C.2.1 dX10_work_95 rfl (lv_at hl 0 rfl) ?_
              refine zg10_4 C hH (zW_n hC) (zW_k hC) q_573 (zW_lw hC).1 dX10_work_96 ?_
              refine lv_iload_n C.1 C.2.1 dX10_work_99 rfl (lv_at hl 3 rfl) ?_
              obtain ⟨o12, hF⟩ := hF
              refine zgoi (zrunV (As := [.int (zI (g))]) (rest := []) C hE hH hS hl.1 (c_X1_isSound (l := l) (zW_lw hC).2.2.2.1.1 (g) hg o12) k_RX10_295 ⟨Nat.le_of_ble_eq_true rfl, Nat.le_of_ble_eq_true rfl⟩ (zChart_n0 (zW_lw hC).2.2.2.1.1) (zChart_k0 (zW_lw hC).2.2.2.1.1) rfl rfl rfl (Nat.le_of_ble_eq_true rfl) dX10_work_100 ⟨Nat.zero_le _, Nat.zero_le _⟩) hS (fun rq Xq Yq Rq H locs hrq hq hH hS => ?_)
              obtain ⟨h91, h92⟩ := hq
              have h93 : Xq = X2 := congrArg (fun z => z.1) h92
              have h94 : Yq = Y3 := congrArg (fun z => z.2.1) h92
              have h95 : Rq = R4 := congrArg (fun z => z.2.2) h92
              rw [h93, h94, h95] at hH
              subst h91
              refine zd_ifB_eq C 117 dX10_work_103 (by decide) (fun c13 => ?_) (fun c13 => ?_)
              · have hF := hF.1 c13
                refine lv_ldc2 (v := zL (-1)) C.1 C.2.1 C.2.2.2.1 (C.2.2.2.2.1 _ q_1048) dX10_work_117 ?_
                exact zd_lret C hr hlk hH hS (by decide) (hF) dX10_work_120
              · have hF := hF.2 c13
                refine lv_aload_n C.1 C.2.1 dX10_work_106 rfl (lv_at hl 0 rfl) ?_
                refine zg10_4 C hH (zW_n hC) (zW_k hC) q_573 (zW_lw hC).1 dX10_work_107 ?_
                refine lv_iload_n C.1 C.2.1 dX10_work_110 rfl (lv_at hl 3 rfl) ?_
                obtain ⟨o14, hF⟩ := hF
                refine zgol (zrunV (As := [.int (zI (g))]) (rest := []) C hE hH hS hl.1 (c_X1_subtree (l := l) (zW_lw hC).2.2.2.1.1 (g) hg o14) k_RX10_298 ⟨Nat.le_of_ble_eq_true rfl, Nat.le_of_ble_eq_true rfl⟩ (zChart_n0 (zW_lw hC).2.2.2.1.1) (zChart_k0 (zW_lw hC).2.2.2.1.1) rfl rfl rfl (Nat.le_of_ble_eq_true rfl) dX10_work_111 ⟨Nat.zero_le _, Nat.zero_le _⟩) hS (fun r16 Xq Y15 Rq H locs hrq hq hH hS => ?_)
                obtain ⟨h9X, h9R, hq⟩ := hq
                dsimp only at h9X h9R
                rw [h9X, h9R] at hH
                have hr16 := hrq
                have hF := hF r16 hrq Y15 hH.2.2.2 hq
                refine lv_goto (tgt := 120) C.1 C.2.1 dX10_work_114 (by decide) ?_
                exact zd_lret C hr hlk hH hS hr16 (hF) dX10_work_120
            · have hF := hF.2
              by_cases c8_4 : d = 4
              · have hF := hF.1 c8_4
                refine zd_tabI C hd 121 (4) c8_4 dX10_work_29 (by decide) (by decide) rfl (by decide) ?_
                refine lv_aload_n C.1 C.2.1 dX10_work_121 rfl (lv_at hl 0 rfl) ?_
                refine zg10_4 C hH (zW_n hC) (zW_k hC) q_573 (zW_lw hC).1 dX10_work_122 ?_
                refine lv_iload_n C.1 C.2.1 dX10_work_125 rfl (lv_at hl 3 rfl) ?_
                obtain ⟨o17, hF⟩ := hF
                refine zgoi (zrunV (As := [.int (zI (g))]) (rest := []) C hE hH hS hl.1 (c_X1_isSound (l := l) (zW_lw hC).2.2.2.1.1 (g) hg o17) k_RX10_295 ⟨Nat.le_of_ble_eq_true rfl, Nat.le_of_ble_eq_true rfl⟩ (zChart_n0 (zW_lw hC).2.2.2.1.1) (zChart_k0 (zW_lw hC).2.2.2.1.1) rfl rfl rfl (Nat.le_of_ble_eq_true rfl) dX10_work_126 ⟨Nat.zero_le _, Nat.zero_le _⟩) hS (fun rq Xq Yq Rq H locs hrq hq hH hS => ?_)
                obtain ⟨h91, h92⟩ := hq
                have h93 : Xq = X2 := congrArg (fun z => z.1) h92
                have h94 : Yq = Y3 := congrArg (fun z => z.2.1) h92
                have h95 : Rq = R4 := congrArg (fun z => z.2.2) h92
                rw [h93, h94, h95] at hH
                subst h91
                refine zd_ifB_eq C 136 dX10_work_129 (by decide) (fun c18 => ?_) (fun c18 => ?_)
                · have hF := hF.1 c18
                  refine lv_lconst (v := zL 0) C.1 C.2.1 dX10_work_136 rfl ?_
                  exact zd_lret C hr hlk hH hS (by decide) (hF) dX10_work_137
                · have hF := hF.2 c18
                  refine lv_lconst (v := zL 1) C.1 C.2.1 dX10_work_132 rfl ?_
                  refine lv_goto (tgt := 137) C.1 C.2.1 dX10_work_133 (by decide) ?_
                  exact zd_lret C hr hlk hH hS (by decide) (hF) dX10_work_137
              · have hF := hF.2
                have c8 := tsw_0_4 (d) c8_0 c8_1 c8_2 c8_3 c8_4
                have hF := hF c8
                refine zd_tabO C hd 138 c8 dX10_work_29 (by decide) ?_
                refine lv_aload_n C.1 C.2.1 dX10_work_138 rfl (lv_at hl 0 rfl) ?_
                refine zg10_4 C hH (zW_n hC) (zW_k hC) q_573 (zW_lw hC).1 dX10_work_139 ?_
                refine lv_iload_n C.1 C.2.1 dX10_work_142 rfl (lv_at hl 3 rfl) ?_
                obtain ⟨o19, hF⟩ := hF
                refine zgoi (zrunV (As := [.int (zI (g))]) (rest := []) C hE hH hS hl.1 (c_X1_isSound (l := l) (zW_lw hC).2.2.2.1.1 (g) hg o19) k_RX10_295 ⟨Nat.le_of_ble_eq_true rfl, Nat.le_of_ble_eq_true rfl⟩ (zChart_n0 (zW_lw hC).2.2.2.1.1) (zChart_k0 (zW_lw hC).2.2.2.1.1) rfl rfl rfl (Nat.le_of_ble_eq_true rfl) dX10_work_143 ⟨Nat.zero_le _, Nat.zero_le _⟩) hS (fun rq Xq Yq Rq H locs hrq hq hH hS => ?_)
                obtain ⟨h91, h92⟩ := hq
                have h93 : Xq = X2 := congrArg (fun z => z.1) h92
                have h94 : Yq = Y3 := congrArg (fun z => z.2.1) h92
                have h95 : Rq = R4 := congrArg (fun z => z.2.2) h92
                rw [h93, h94, h95] at hH
                subst h91
                refine zd_ifB_eq C 168 dX10_work_146 (by decide) (fun c20 => ?_) (fun c20 => ?_)
                · have hF := hF.1 c20
                  refine zd_iconst C dX10_work_168 ?_
                  refine lv_istore (lv' := [(5, .int (zI (0))), (0, .ref (bs + (i))), (1, .int (zI (a))), (2, .int (zI (b))), (3, .int (zI (g))), (4, .int (zI (d)))]) C.1 C.2.1 dX10_work_169 hl (by decide) rfl (fun ls hl => ?_)
                  refine lv_iload C.1 C.2.1 dX10_work_171 (lv_at hl 0 rfl) ?_
                  refine zd_if_eq C (by decide) 198 dX10_work_173 (by decide) (fun c21 => ?_) (fun c21 => ?_)
                  · refine lv_ldc2 (v := zL (-1)) C.1 C.2.1 C.2.2.2.1 (C.2.2.2.2.1 _ q_1048) dX10_work_198 ?_
                    exact zd_lret C hr hlk hH hS (by decide) (hF) dX10_work_201
                  · exact absurd (by decide) c21
                · have hF := hF.2 c20
                  refine lv_aload_n C.1 C.2.1 dX10_work_149 rfl (lv_at hl 0 rfl) ?_
                  refine zg10_4 C hH (zW_n hC) (zW_k hC) q_573 (zW_lw hC).1 dX10_work_150 ?_
                  refine zg1_0 C hH (zChart_n0 (zW_lw hC).2.2.2.1.1) (zChart_k0 (zW_lw hC).2.2.2.1.1) q_393 (zChart_net (zW_lw hC).2.2.2.1.1).1 dX10_work_153 ?_
                  refine lv_iload C.1 C.2.1 dX10_work_156 (lv_at hl 4 rfl) ?_
                  obtain ⟨o22, hF⟩ := hF
                  refine zgoi (zrunS (As := [.ref (bs + (cn R4 (i + 157))), .int (zI (d))]) (rest := []) C hE hH hS hl.1 (c_X10_isAccount (l := l) (zChart_net (zW_lw hC).2.2.2.1.1).2 (d) hd o22) k_RX10_137 ⟨Nat.le_of_ble_eq_true rfl, Nat.le_of_ble_eq_true rfl⟩ rfl (Nat.le_of_ble_eq_true rfl) dX10_work_158 ⟨Nat.zero_le _, Nat.zero_le _⟩) hS (fun rq Xq Yq Rq H locs hrq hq hH hS => ?_)
                  obtain ⟨h91, h92⟩ := hq
                  have h93 : Xq = X2 := congrArg (fun z => z.1) h92
                  have h94 : Yq = Y3 := congrArg (fun z => z.2.1) h92
                  have h95 : Rq = R4 := congrArg (fun z => z.2.2) h92
                  rw [h93, h94, h95] at hH
                  subst h91
                  refine zd_ifB_eq C 168 dX10_work_161 (by decide) (fun c23 => ?_) (fun c23 => ?_)
                  · have hF := hF.1 c23
                    refine zd_iconst C dX10_work_168 ?_
                    refine lv_istore (lv' := [(5, .int (zI (0))), (0, .ref (bs + (i))), (1, .int (zI (a))), (2, .int (zI (b))), (3, .int (zI (g))), (4, .int (zI (d)))]) C.1 C.2.1 dX10_work_169 hl (by decide) rfl (fun ls hl => ?_)
                    refine lv_iload C.1 C.2.1 dX10_work_171 (lv_at hl 0 rfl) ?_
                    refine zd_if_eq C (by decide) 198 dX10_work_173 (by decide) (fun c24 => ?_) (fun c24 => ?_)
                    · refine lv_ldc2 (v := zL (-1)) C.1 C.2.1 C.2.2.2.1 (C.2.2.2.2.1 _ q_1048) dX10_work_198 ?_
                      exact zd_lret C hr hlk hH hS (by decide) (hF) dX10_work_201
                    · exact absurd (by decide) c24
                  · have hF := hF.2 c23
                    refine zd_iconst C dX10_work_164 ?_
                    refine lv_goto (tgt := 169) C.1 C.2.1 dX10_work_165 (by decide) ?_
                    refine lv_istore (lv' := [(5, .int (zI (1))), (0, .ref (bs + (i))), (1, .int (zI (a))), (2, .int (zI (b))), (3, .int (zI (g))), (4, .int (zI (d)))]) C.1 C.2.1 dX10_work_169 hl (by decide) rfl (fun ls hl => ?_)
                    refine lv_iload C.1 C.2.1 dX10_work_171 (lv_at hl 0 rfl) ?_
                    refine zd_if_eq C (by decide) 198 dX10_work_173 (by decide) (fun c25 => ?_) (fun c25 => ?_)
                    · exact absurd c25 (by decide)
                    · refine lv_aload_n C.1 C.2.1 dX10_work_176 rfl (lv_at hl 1 rfl) ?_
                      refine zg10_4 C hH (zW_n hC) (zW_k hC) q_573 (zW_lw hC).1 dX10_work_177 ?_
                      refine zg1_9 C hH (zChart_n0 (zW_lw hC).2.2.2.1.1) (zChart_k0 (zW_lw hC).2.2.2.1.1) q_414 (zChart_r14 (zW_lw hC).2.2.2.1.1) dX10_work_180 ?_
                      refine lv_iload_n C.1 C.2.1 dX10_work_183 rfl (lv_at hl 4 rfl) ?_
                      obtain ⟨o26, hF⟩ := hF
                      refine zd_aaldr C hH (zChart_n14 (zW_lw hC).2.2.2.1.1) 5 rfl rfl (by rw [(zChart_k14 (zW_lw hC).2.2.2.1.1)]; rfl) o26.1 (by rw [zChart_l14 (zW_lw hC).2.2.2.1.1]; exact o26.2) (by rw [zChart_l14 (zW_lw hC).2.2.2.1.1]; decide) (zChart_lg (zW_lw hC).2.2.2.1.1 o26.1 o26.2).1 dX10_work_184 ?_
                      refine zg5_1 C hH (zLedger_n0 (zChart_lg (zW_lw hC).2.2.2.1.1 o26.1 o26.2).2) (zLedger_k0 (zChart_lg (zW_lw hC).2.2.2.1.1 o26.1 o26.2).2) q_385 (zLedger_r1 (zChart_lg (zW_lw hC).2.2.2.1.1 o26.1 o26.2).2) dX10_work_185 ?_
                      refine lv_iload C.1 C.2.1 dX10_work_188 (lv_at hl 5 rfl) ?_
                      refine zd_bipush C (by decide) dX10_work_190 ?_
                      refine zd_isub C dX10_work_192 ?_
                      rw [show zI (d - 10) = zI (zW (d - 10)) from (zI_zW _).symm]
                      obtain ⟨o27, hF⟩ := hF
                      refine zd_iald C hH (zLedger_n1 (zChart_lg (zW_lw hC).2.2.2.1.1 o26.1 o26.2).2) (zLedger_k1 (zChart_lg (zW_lw hC).2.2.2.1.1 o26.1 o26.2).2) o27.1 (by rw [zLedger_l1 (zChart_lg (zW_lw hC).2.2.2.1.1 o26.1 o26.2).2]; exact o27.2) (by rw [zLedger_l1 (zChart_lg (zW_lw hC).2.2.2.1.1 o26.1 o26.2).2]; decide) dX10_work_193 ?_
                      refine zd_i2l C (hH.2.2.1 _ _) dX10_work_194 ?_
                      refine lv_goto (tgt := 201) C.1 C.2.1 dX10_work_195 (by decide) ?_
                      exact zd_lret C hr hlk hH hS (rI_rL (hH.2.2.1 _ _)) (hF) dX10_work_201
    · have hF := hF.2 c7
      refine lv_ldc2 (v := zL (-1)) C.1 C.2.1 C.2.2.2.1 (C.2.2.2.2.1 _ q_1048) dX10_work_23 ?_
      exact zd_lret C hr hlk hH hS (by decide) (hF) dX10_work_26
theorem v_X10_work {X Y : Nat → Int → Int} {R : Nat → Int → Option Nat} {i : Nat} {Z : Nat → Int → Int} {q : Nat} (a : Int) (ha : rI a) (b : Int) (hb : rI b) (g : Int) (hg : rI g) (d : Int) (hd : rI d) (hp : wcQ Z q X i) : F_X10_work i Z q X Y R a b g d := by
  unfold F_X10_work
  intro hX hY
  refine ⟨?_, ?_⟩
  · exact hp
  intro r5
  intro X2
  intro rX2
  intro Y3
  intro rY3
  intro R4
  intro h1
  obtain ⟨eR, er, hf, ht⟩ := h1
  refine ⟨?_, ?_⟩
  · intro c1
    obtain ⟨rfl, rfl⟩ := hf c1
    have e : rOk Z q a b = false := by rw [← er]; exact c1
    have hk : qK X2 X2 i := ⟨fun _ _ => rfl, hp.2.2⟩
    exact ⟨eR, by unfold rWork; rw [e]; rfl, hk⟩
  intro c2
  obtain ⟨hk, hA, h3, h4⟩ := ht c2
  have e : rOk Z q a b = true := by rw [← er]; exact c2
  have l := cA_l hA
  have b0 := cA_b hA
  have a6 := cA_a hA
  have e27 := hz_27 (Z := Z) (q := q) (n := a) (c := b) (f := 0)
  have e26 := hz_26 (Z := Z) (q := q) (n := a) (c := b) (f := 0)
  refine ⟨?_, ?_⟩
  · intro c3
    have c3 := of_decide_eq_true c3
    obtain ⟨gn, rfl⟩ := nat_of c3.1
    have eg : ((gn : Nat) : Int).toNat = gn := by omega
    have gl : (gn : Int) < hZ Z q a b 0 q 27 := by omega
    have E : rWork Z q a b gn d = wkOf (hZ Z q a b 0) q gn d := by
      unfold rWork
      rw [e, mIn_t.mpr (by omega)]
      rfl
    rw [eg]
    refine ⟨?_, ?_⟩
    · intro c4
      refine ⟨?_, ?_⟩
      · first | omega | exact ⟨by omega, by omega⟩ | decide | assumption | exact ⟨by omega, by omega, by omega⟩ | exact ⟨by decide, by decide⟩
      refine ⟨eR, ?_, hk⟩
      rw [E]
      unfold wkOf
      rw [if_neg (show ¬ 10 ≤ d by omega), if_pos c4]
      exact cA_h hA gl
    refine ⟨?_, ?_⟩
    · intro c5
      refine ⟨?_, ?_⟩
      · first | omega | exact ⟨by omega, by omega⟩ | decide | assumption | exact ⟨by omega, by omega, by omega⟩ | exact ⟨by decide, by decide⟩
      refine ⟨eR, ?_, hk⟩
      rw [E]
      unfold wkOf
      rw [if_neg (show ¬ 10 ≤ d by omega), if_neg (by omega), if_pos c5]
      exact (cA_W hA gl).1
    refine ⟨?_, ?_⟩
    · intro c6
      refine ⟨?_, ?_⟩
      · first | omega | exact ⟨by omega, by omega⟩ | decide | assumption | exact ⟨by omega, by omega, by omega⟩ | exact ⟨by decide, by decide⟩
      refine ⟨eR, ?_, hk⟩
      rw [E]
      unfold wkOf
      rw [if_neg (show ¬ 10 ≤ d by omega), if_neg (by omega), if_neg (by omega), if_pos c6]
      exact (cA_W hA gl).2
    refine ⟨?_, ?_⟩
    · intro c7
      refine ⟨?_, ?_⟩
      · first | omega | exact ⟨by omega, by omega⟩ | decide | assumption | exact ⟨by omega, by omega, by omega⟩ | exact ⟨by decide, by decide⟩
      refine ⟨?_, ?_⟩
      · intro c8
        rw [cA_so hA, decide_eq_true (by omega), Bool.true_and, eg] at c8
        refine ⟨eR, ?_, hk⟩
        rw [E]
        unfold wkOf
        rw [if_neg (show ¬ 10 ≤ d by omega), if_neg (by omega), if_neg (by omega), if_neg (by omega), if_pos c7, c8]
        rfl
      intro c9
      rw [cA_so hA, decide_eq_true (by omega), Bool.true_and, eg] at c9
      refine ⟨?_, ?_⟩
      · exact ⟨hA, by omega, gl⟩
      intro r16
      intro _
      intro Y15
      intro rY15
      intro h2
      refine ⟨eR, ?_, hk⟩
      rw [E]
      unfold wkOf
      rw [if_neg (show ¬ 10 ≤ d by omega), if_neg (by omega), if_neg (by omega), if_neg (by omega), if_pos c7, c9, if_pos rfl]
      have h2 := h2.2
      exact h2 c9
    refine ⟨?_, ?_⟩
    · intro c10
      refine ⟨?_, ?_⟩
      · first | omega | exact ⟨by omega, by omega⟩ | decide | assumption | exact ⟨by omega, by omega, by omega⟩ | exact ⟨by decide, by decide⟩
      refine ⟨?_, ?_⟩
      · intro c11
        rw [cA_so hA, decide_eq_true (by omega), Bool.true_and, eg] at c11
        refine ⟨eR, ?_, hk⟩
        rw [E]
        unfold wkOf
        rw [if_neg (show ¬ 10 ≤ d by omega), if_neg (by omega), if_neg (by omega), if_neg (by omega), if_neg (by omega), if_pos c10, c11]
        rfl
      intro c12
      rw [cA_so hA, decide_eq_true (by omega), Bool.true_and, eg] at c12
      refine ⟨eR, ?_, hk⟩
      rw [E]
      unfold wkOf
      rw [if_neg (show ¬ 10 ≤ d by omega), if_neg (by omega), if_neg (by omega), if_neg (by omega), if_neg (by omega), if_pos c10, c12]
      rfl
    intro c13
    refine ⟨?_, ?_⟩
    · first | omega | exact ⟨by omega, by omega⟩ | decide | assumption | exact ⟨by omega, by omega, by omega⟩ | exact ⟨by decide, by decide⟩
    refine ⟨?_, ?_⟩
    · intro c14
      rw [cA_so hA, decide_eq_true (by omega), Bool.true_and, eg] at c14
      refine ⟨eR, ?_, hk⟩
      rw [E]
      unfold wkOf
      by_cases g10 : 10 ≤ d
      · rw [if_pos g10, c14]
        rfl
      · rw [if_neg g10, if_neg (by omega), if_neg (by omega), if_neg (by omega), if_neg (by omega), if_neg (by omega)]
    intro c15
    rw [cA_so hA, decide_eq_true (by omega), Bool.true_and, eg] at c15
    refine ⟨?_, ?_⟩
    · first | omega | exact ⟨by omega, by omega⟩ | decide | assumption | exact ⟨by omega, by omega, by omega⟩ | exact ⟨by decide, by decide⟩
    refine ⟨?_, ?_⟩
    · intro c16
      rw [mIn_f] at c16
      refine ⟨eR, ?_, hk⟩
      rw [E]
      unfold wkOf
      by_cases g10 : 10 ≤ d
      · rw [if_pos g10, mIn_f.mpr (by omega), Bool.and_false]
        rfl
      · rw [if_neg g10, if_neg (by omega), if_neg (by omega), if_neg (by omega), if_neg (by omega), if_neg (by omega)]
    intro c17
    refine ⟨?_, ?_⟩
    · first | omega | exact ⟨by omega, by omega⟩ | decide | assumption | exact ⟨by omega, by omega, by omega⟩ | exact ⟨by decide, by decide⟩
    refine ⟨?_, ?_⟩
    · rw [mIn_t] at c17
      have ew : zW (d - 10) = d - 10 := zI_toInt ⟨by omega, by omega⟩
      rw [ew]
      omega
    rw [mIn_t] at c17
    have ew : zW (d - 10) = d - 10 := zI_toInt ⟨by omega, by omega⟩
    have ld := (cA_ld hA gl c15).2.1 (d - 10) (by omega) (by omega)
    refine ⟨eR, ?_, hk⟩
    rw [E]
    unfold wkOf
    rw [if_pos (by omega), c15, mIn_t.mpr (by omega), ew]
    exact ld
  intro c18
  have c18 := of_decide_eq_false c18
  exact ⟨eR, by unfold rWork; rw [e, mIn_f.mpr (by omega)]; rfl, hk⟩
theorem c_X10_work {l : Launch} {D : va_G} {cy : Nat → ClassId} {bs N : Nat} {sa : Nat → Nat} {kd len : Nat → Nat} {X Y : Nat → Int → Int} {R : Nat → Int → Option Nat} {i : Nat} {Z : Nat → Int → Int} {q : Nat} (hC : zWC N kd len R i) (a : Int) (ha : rI a) (b : Int) (hb : rI b) (g : Int) (hg : rI g) (d : Int) (hd : rI d) (hp : wcQ Z q X i) : Met l yX10_work (.code yX10_work cX10_work 6 (some .long) :: zTB) (zRm 5 134) (zPc D cy bs sa N kd len X Y R [.ref (bs + (i)), .int (zI (a)), .int (zI (b)), .int (zI (g)), .int (zI (d))]) (zQl D cy bs N kd len (fun r st => (((st.2.2) = wgR Z q R i (a) (b)) ∧ r = rWork Z q (a) (b) (g) (d) ∧ qK X (st.1) i))) 0 0 (zA bs) := w_X10_work hC a ha b hb g hg d hd (v_X10_work a ha b hb g hg d hd hp)
