/-! WAYS -/
def wdR (Z : Nat → Int → Int) (q : Nat) (R : Nat → Int → Option Nat) (i : Nat) (a b g : Int) : Nat → Int → Option Nat := if (0 ≤ a ∧ a < 2) ∧ (mIs q Z 1 a && (mIn b 0 (qN Z q a) && mIn g 0 (qN Z q a))) = true then zU R (i + 157) 1 (some (i + 9 + 8 * a.toNat)) else R
theorem zWC_dw {N : Nat} {kd len : Nat → Nat} {R R1 : Nat → Int → Option Nat} {i : Nat} {Z : Nat → Int → Int} {q : Nat} {a b g : Int} (h : zWC N kd len R i) (e : R1 = wdR Z q R i a b g) : zWC N kd len R1 i := by
  unfold wdR at e
  split at e
  · rename_i g
    rw [e]
    exact zWC_putB (P := True) h ⟨g.1.1, g.1.2, trivial⟩ rfl
  · rw [e]
    exact h
theorem nbN_is {s n : Int} : ∀ {m j : Nat}, j < m → mHas s j = true → mOnesN s j = n → nbN s n m = j
  | 0, _, h, _, _ => absurd h (Nat.not_lt_zero _)
  | m + 1, j, h, h1, h2 => by
    show (if nbN s n m = -1 then (if mHas s m = true ∧ mOnesN s m = n then (m : Int) else -1) else nbN s n m) = _
    by_cases c : j = m
    · subst c
      have z : nbN s n j = -1 := by
        have lo : ∀ m, m ≤ j → nbN s n m = -1 := fun m => by
          induction m with
          | zero => exact fun _ => rfl
          | succ m ih =>
            intro hm
            show (if nbN s n m = -1 then (if mHas s m = true ∧ mOnesN s m = n then (m : Int) else -1) else nbN s n m) = -1
            rw [if_pos (ih (by omega))]
            by_cases g : mHas s m = true ∧ mOnesN s m = n
            · exfalso
              have mono : ∀ d, mOnesN s (m + 1) ≤ mOnesN s (m + 1 + d) := fun d => by
                induction d with
                | zero => exact Int.le_refl _
                | succ d ih2 =>
                  have : mOnesN s (m + 1 + (d + 1)) = mOnesN s (m + 1 + d) + bz (mHas s ((m + 1 + d : Nat) : Int)) := rfl
                  have b : 0 ≤ bz (mHas s ((m + 1 + d : Nat) : Int)) := by cases mHas s ((m + 1 + d : Nat) : Int) <;> decide
                  omega
              have e1 : mOnesN s (m + 1) = mOnesN s m + bz (mHas s m) := rfl
              rw [g.1, g.2] at e1
              have e2 := mono (j - (m + 1))
              rw [show m + 1 + (j - (m + 1)) = j by omega, h2, e1] at e2
              have : bz true = 1 := rfl
              omega
            · rw [if_neg g]
        exact lo j (Nat.le_refl _)
      rw [if_pos z, if_pos ⟨h1, h2⟩]
    · rw [nbN_is (m := m) (by omega) h1 h2, if_neg (by omega)]
theorem mOnesN_cg {s t : Int} : ∀ m : Nat, (∀ j : Nat, j < m → mHas s j = mHas t j) → mOnesN s m = mOnesN t m
  | 0, _ => rfl
  | m + 1, h => by
    show mOnesN s m + bz (mHas s m) = mOnesN t m + bz (mHas t m)
    rw [mOnesN_cg m (fun j hj => h j (by omega)), h m (by omega)]
theorem mOnesN_cut {s : Int} {k : Nat} : ∀ d, (∀ j : Nat, k ≤ j → j < k + d → mHas s j = false) → mOnesN s (k + d) = mOnesN s k
  | 0, _ => rfl
  | d + 1, h => by
    show mOnesN s (k + d) + bz (mHas s ((k + d : Nat) : Int)) = _
    rw [mOnesN_cut d (fun j h1 h2 => h j h1 (by omega)), h (k + d) (by omega) (by omega)]
    exact Int.add_zero _
theorem nbN_mLst {s : Int} (h0 : mHas s 0 = true) : ∀ m : Nat, m ≤ 15 → nbN s (mOnesN s m - 1) m = mLst s m
  | 0, _ => rfl
  | m + 1, hm => by
    show nbN s (mOnesN s m + bz (mHas s m) - 1) (m + 1) = if mHas s m then (m : Int) else mLst s m
    cases c : mHas s m
    · have ih := nbN_mLst h0 m (by omega)
      have e : mOnesN s m + bz false - 1 = mOnesN s m - 1 := by
        have : bz false = 0 := rfl
        omega
      rw [e]
      show (if nbN s _ m = -1 then (if mHas s m = true ∧ mOnesN s m = _ then (m : Int) else -1) else nbN s _ m) = _
      rw [ih, c]
      by_cases g : mLst s m = -1
      · rw [if_pos g]
        simp [g]
      · rw [if_neg g]
        simp
    · rw [if_pos rfl]
      exact nbN_is (by omega) c (by have : bz true = 1 := rfl; omega)
/-- what lies on the way of a and not on that of b, from above -/
theorem onW_tr {P : Nat → Nat} {n : Nat} (hP : sPar P n) (b : Nat) : ∀ (d b' : Nat), b' ≤ d → b' ≤ n → ∀ k, onW P b' b = true → onW P b k = true → onW P b' k = true
  | d, b', hd, hn, k, h1, h2 => by
    by_cases c : b' = 0
    · subst c
      rw [onW_0, decide_eq_true_eq] at h1
      subst h1
      exact h2
    · cases d with
      | zero => omega
      | succ d =>
        have hp := hP b' (by omega) hn
        rw [onW_s hp, Bool.or_eq_true, decide_eq_true_eq] at h1
        rcases h1 with h1 | h1
        · subst h1
          exact h2
        · rw [onW_s hp, onW_tr hP b d (P b') (by omega) (by omega) k h1 h2, Bool.or_true]
theorem aN_sh {P : Nat → Nat} {a : Nat} (ha : 1 ≤ a) : ∀ n, aN P a (n + 1) = aN P (P a) n
  | 0 => by
    show (if (a : Int) ≤ 0 then -1 else ((P ((a : Int)).toNat : Nat) : Int)) = _
    rw [if_neg (by omega), show ((a : Nat) : Int).toNat = a by omega]
    rfl
  | n + 1 => by
    show (if aN P a (n + 1) ≤ 0 then (-1 : Int) else P (aN P a (n + 1)).toNat) = if aN P (P a) n ≤ 0 then -1 else ((P (aN P (P a) n).toNat : Nat) : Int)
    rw [aN_sh ha n]
theorem onW_z {P : Nat → Nat} {n : Nat} (hP : sPar P n) : ∀ b, b ≤ n → onW P b 0 = true := by
  have h0 : ∀ (d b : Nat), b ≤ d → b ≤ n → onW P b 0 = true := fun d => by
    induction d with
    | zero => intro b h1 _; rw [show b = 0 by omega, onW_0]; rfl
    | succ d ih =>
      intro b h1 h2
      by_cases c : b = 0
      · rw [c, onW_0]
        rfl
      · have hp := hP b (by omega) h2
        rw [onW_s hp, ih (P b) (by omega) (by omega), Bool.or_true]
  exact fun b hb => h0 b b (Nat.le_refl _) hb
theorem pb_k {P : Nat → Nat} {n b : Nat} (hn : n ≤ 14) (hP : sPar P n) (hb : b ≤ n) : ∀ (d a : Nat), a ≤ d → a ≤ n → ∀ s : Int, (∀ j : Nat, j < 15 → mHas s j = (onW P a j && !onW P b j)) → ∀ k : Nat, (k : Int) < mOnesN s 15 → ∃ j : Nat, aN P a k = j ∧ j ≤ a ∧ mHas s j = true ∧ mOnesN s j = mOnesN s 15 - 1 - k
  | d, a, hd, ha, s, hs, k, hk => by
    by_cases hw : onW P b a = true
    · have z : mOnesN s 15 = 0 := (mOnes_z 15).mpr fun j hj => by
        rw [hs j hj]
        cases c : onW P a j
        · rfl
        · rw [onW_tr hP a b b (Nat.le_refl _) hb j hw c]
          rfl
      omega
    · have hw : onW P b a = false := Bool.eq_false_iff.mpr hw
      have a1 : 1 ≤ a := Nat.one_le_iff_ne_zero.mpr fun z => by
        subst z
        have := onW_z hP b hb
        rw [this] at hw
        cases hw
      have hp := hP a a1 ha
      cases d with
      | zero => omega
      | succ d =>
        have sa : mHas s a = true := by
          rw [hs a (by omega), hw, onW_s hp, decide_eq_true rfl]
          rfl
        have top : mOnesN s 15 = mOnesN s (a + 1) := by
          have := mOnesN_cut (s := s) (k := a + 1) (14 - a) (fun j h1 h2 => by
            rw [hs j (by omega)]
            cases c : onW P a j
            · rfl
            · exact absurd (onW_le hP a ha j c) (by omega))
          rw [show a + 1 + (14 - a) = 15 by omega] at this
          exact this
        have top2 : mOnesN s (a + 1) = mOnesN s a + 1 := by
          show mOnesN s a + bz (mHas s a) = _
          rw [sa]
          rfl
        cases k with
        | zero => exact ⟨a, rfl, Nat.le_refl _, sa, by omega⟩
        | succ k =>
          obtain ⟨s2, e2⟩ : ∃ s2, s2 = bS (fun j => onW P (P a) j && !onW P b j) 15 := ⟨_, rfl⟩
          have hs2 : ∀ j : Nat, j < 15 → mHas s2 j = (onW P (P a) j && !onW P b j) := fun j hj => by rw [e2, bS_has _ (by decide) hj]
          have lo : ∀ j : Nat, j < a → mHas s j = mHas s2 j := fun j hj => by
            rw [hs j (by omega), hs2 j (by omega), onW_s hp, decide_eq_false (show ¬ j = a by omega), Bool.false_or]
          have t2 : mOnesN s2 15 = mOnesN s2 a := by
            have := mOnesN_cut (s := s2) (k := a) (15 - a) (fun j h1 h2 => by
              rw [hs2 j (by omega)]
              cases c : onW P (P a) j
              · rfl
              · exact absurd (onW_le hP (P a) (by omega) j c) (by omega))
            rw [show a + (15 - a) = 15 by omega] at this
            exact this
          have t3 : mOnesN s a = mOnesN s2 a := mOnesN_cg a lo
          obtain ⟨j, g1, g2, g3, g4⟩ := pb_k hn hP hb d (P a) (by omega) (by omega) s2 hs2 k (by omega)
          exact ⟨j, by rw [aN_sh a1]; exact g1, by omega, by rw [lo j (by omega)]; exact g3, by rw [mOnesN_cg j (fun z hz => lo z (by omega)), g4]; omega⟩
theorem wy_bk {P : Nat → Nat} {a b j : Nat} (h : j < 15) : mHas (zAnd (wyP P a) (zXor (wyP P b) (-1))) j = (onW P a j && !onW P b j) := by
  rw [mHas_zb _ (by omega), zb_and, zb_not _ (by omega), ← mHas_zb _ (by omega), ← mHas_zb _ (by omega), wy_has h, wy_has h]
theorem pb_nb {P : Nat → Nat} {n a b : Nat} (hn : n ≤ 14) (hP : sPar P n) (ha : a ≤ n) (hb : b ≤ n) {k : Int} (h0 : 0 ≤ k) (hk : k < mOnes (zAnd (wyP P a) (zXor (wyP P b) (-1)))) : nbN (zAnd (wyP P a) (zXor (wyP P b) (-1))) (mOnes (zAnd (wyP P a) (zXor (wyP P b) (-1))) - 1 - k) 15 = aN P a k.toNat := by
  obtain ⟨kn, rfl⟩ := nat_of h0
  obtain ⟨j, g1, g2, g3, g4⟩ := pb_k hn hP hb a a (Nat.le_refl _) ha _ (fun j hj => wy_bk hj) kn hk
  rw [show ((kn : Nat) : Int).toNat = kn by omega, g1]
  exact nbN_is (by omega) g3 g4
abbrev cX10_drawWays : ByteArray := prog_1_method_37_code
def yX10_drawWays : MethodName := ⟨RX10, "drawWays", "(III)Z"⟩
theorem dX10_drawWays_0 : decode cX10_drawWays 0 = .ok (.aload_n 0, 1) := by decide +kernel
theorem dX10_drawWays_1 : decode cX10_drawWays 1 = .ok (.getfield 10, 3) := by decide +kernel
theorem dX10_drawWays_4 : decode cX10_drawWays 4 = .ok (.iload_n 1, 1) := by decide +kernel
theorem dX10_drawWays_5 : decode cX10_drawWays 5 = .ok (.invokevirtual 144, 3) := by decide +kernel
theorem dX10_drawWays_8 : decode cX10_drawWays 8 = .ok (.astore 4, 2) := by decide +kernel
theorem dX10_drawWays_10 : decode cX10_drawWays 10 = .ok (.aload 4, 2) := by decide +kernel
theorem dX10_drawWays_12 : decode cX10_drawWays 12 = .ok (.ifnull 21, 3) := by decide +kernel
theorem dX10_drawWays_15 : decode cX10_drawWays 15 = .ok (.aload 4, 2) := by decide +kernel
theorem dX10_drawWays_17 : decode cX10_drawWays 17 = .ok (.iload_n 2, 1) := by decide +kernel
theorem dX10_drawWays_18 : decode cX10_drawWays 18 = .ok (.invokevirtual 153, 3) := by decide +kernel
theorem dX10_drawWays_21 : decode cX10_drawWays 21 = .ok (.ifCond .eq 12, 3) := by decide +kernel
theorem dX10_drawWays_24 : decode cX10_drawWays 24 = .ok (.aload 4, 2) := by decide +kernel
theorem dX10_drawWays_26 : decode cX10_drawWays 26 = .ok (.iload_n 3, 1) := by decide +kernel
theorem dX10_drawWays_27 : decode cX10_drawWays 27 = .ok (.invokevirtual 153, 3) := by decide +kernel
theorem dX10_drawWays_30 : decode cX10_drawWays 30 = .ok (.ifCond .ne 5, 3) := by decide +kernel
theorem dX10_drawWays_33 : decode cX10_drawWays 33 = .ok (.iconst 0, 1) := by decide +kernel
theorem dX10_drawWays_34 : decode cX10_drawWays 34 = .ok (.ireturn, 1) := by decide +kernel
theorem dX10_drawWays_35 : decode cX10_drawWays 35 = .ok (.aload_n 0, 1) := by decide +kernel
theorem dX10_drawWays_36 : decode cX10_drawWays 36 = .ok (.getfield 34, 3) := by decide +kernel
theorem dX10_drawWays_39 : decode cX10_drawWays 39 = .ok (.aload 4, 2) := by decide +kernel
theorem dX10_drawWays_41 : decode cX10_drawWays 41 = .ok (.invokevirtual 272, 3) := by decide +kernel
theorem dX10_drawWays_44 : decode cX10_drawWays 44 = .ok (.iconst 1, 1) := by decide +kernel
theorem dX10_drawWays_45 : decode cX10_drawWays 45 = .ok (.ireturn, 1) := by decide +kernel
def F_X10_drawWays (i : Nat) (Z : Nat → Int → Int) (q : Nat) (X Y : Nat → Int → Int) (R : Nat → Int → Option Nat) (a : Int) (b : Int) (g : Int) : Prop := (∀ i j, rI (X i j)) → (∀ i j, rL (Y i j)) → ((0 ≤ (a) ∧ (a) < 2 ∧ (a) < X (i + 3) 1) → ((((decide (0 ≤ (b) ∧ (b) ≤ X (i + 9 + 8 * (a : Int).toNat) 0 ∧ (b) < 15)) = false) → (((R) = wdR Z q R i (a) (b) (g)) ∧ false = (mIs q Z 1 (a) && (mIn (b) 0 (qN Z q (a)) && mIn (g) 0 (qN Z q (a)))) ∧ qK X (X) i ∧ (false = true → dR (hZ Z q 0 (a) 0) q (X) (R) (i + 157)))) ∧ (((decide (0 ≤ (b) ∧ (b) ≤ X (i + 9 + 8 * (a : Int).toNat) 0 ∧ (b) < 15)) = true) → ((((decide (0 ≤ (g) ∧ (g) ≤ X (i + 9 + 8 * (a : Int).toNat) 0 ∧ (g) < 15)) = true) → ((((vZ (hZ Z q 0 a 0) q ∧ chI X (i + 157)) ∧ bR (hZ Z q 0 a 0) q X (i + 9 + 8 * (a : Int).toNat)) ∧ (i + 9 + 8 * (a : Int).toNat) + 5 < (i + 157)) ∧ (∀ X5 : Nat → Int → Int, (∀ i j, rI (X5 i j)) → ∀ R6 : Nat → Int → Option Nat, ((R6 = zU R (i + 157) 1 (some (i + 9 + 8 * (a : Int).toNat))) ∧ dR (hZ Z q 0 a 0) q (X5) (R6) (i + 157) ∧ (∀ z, z ≠ (i + 157) → z ≠ i + 166 → z ≠ i + 167 → z ≠ i + 168 → (X5) z = X z) ∧ X5 (i + 157) 3 = 0) → (((R6) = wdR Z q R i (a) (b) (g)) ∧ true = (mIs q Z 1 (a) && (mIn (b) 0 (qN Z q (a)) && mIn (g) 0 (qN Z q (a)))) ∧ qK X (X5) i ∧ (true = true → dR (hZ Z q 0 (a) 0) q (X5) (R6) (i + 157)))))) ∧ (((decide (0 ≤ (g) ∧ (g) ≤ X (i + 9 + 8 * (a : Int).toNat) 0 ∧ (g) < 15)) = false) → (((R) = wdR Z q R i (a) (b) (g)) ∧ false = (mIs q Z 1 (a) && (mIn (b) 0 (qN Z q (a)) && mIn (g) 0 (qN Z q (a)))) ∧ qK X (X) i ∧ (false = true → dR (hZ Z q 0 (a) 0) q (X) (R) (i + 157)))))))) ∧ (¬ (0 ≤ (a) ∧ (a) < 2 ∧ (a) < X (i + 3) 1) → (((R) = wdR Z q R i (a) (b) (g)) ∧ false = (mIs q Z 1 (a) && (mIn (b) 0 (qN Z q (a)) && mIn (g) 0 (qN Z q (a)))) ∧ qK X (X) i ∧ (false = true → dR (hZ Z q 0 (a) 0) q (X) (R) (i + 157))))
set_option maxHeartbeats 4000000 in
set_option maxRecDepth 100000 in
theorem w_X10_drawWays {l : Launch} {D : va_G} {cy : Nat → ClassId} {bs N : Nat} {sa : Nat → Nat} {kd len : Nat → Nat} {X Y : Nat → Int → Int} {R : Nat → Int → Option Nat} {i : Nat} {Z : Nat → Int → Int} {q : Nat} (hC : zWC N kd len R i) (a : Int) (ha : rI a) (b : Int) (hb : rI b) (g : Int) (hg : rI g) (hF : F_X10_drawWays i Z q X Y R a b g) : Met l yX10_drawWays (.code yX10_drawWays cX10_drawWays 5 (some .boolean) :: zTB) (zRm 2 83) (zPc D cy bs sa N kd len X Y R [.ref (bs + (i)), .int (zI (a)), .int (zI (b)), .int (zI (g))]) (zQi D cy bs N kd len (fun r st => ∃ rb : Bool, r = bz rb ∧ (((st.2.2) = wdR Z q R i (a) (b) (g)) ∧ rb = (mIs q Z 1 (a) && (mIn (b) 0 (qN Z q (a)) && mIn (g) 0 (qN Z q (a)))) ∧ qK X (st.1) i ∧ (rb = true → dR (hZ Z q 0 (a) 0) q (st.1) (st.2.2) (i + 157))))) 0 0 (zA bs) := by
  refine zstart (by decide) (Nat.le_of_ble_eq_true rfl) ?_
  intro p e s m args below meth c ls C hE hH hr hlk hnm hl hargs
  have hF := hF hH.2.2.1 hH.2.2.2
  have hS : va_S (zA bs) s.heap s.heap [] := va_S.rf
  have hl : lv_has ls 5 [(0, .ref (bs + (i))), (1, .int (zI (a))), (2, .int (zI (b))), (3, .int (zI (g)))] := hl
  refine lv_aload_n C.1 C.2.1 dX10_drawWays_0 rfl (lv_at hl 0 rfl) ?_
  refine zg10_0 C hH (zW_n hC) (zW_k hC) q_569 (zW_td hC).1 dX10_drawWays_1 ?_
  refine lv_iload_n C.1 C.2.1 dX10_drawWays_4 rfl (lv_at hl 1 rfl) ?_
  refine zgor (zrunV (As := [.int (zI (a))]) (rest := []) C hE hH hS hl.1 (c_X9_blocksAt (l := l) (zW_td hC).2 (a) ha) k_RX10_144 ⟨Nat.le_of_ble_eq_true rfl, Nat.le_of_ble_eq_true rfl⟩ (zTold_n0 (zW_td hC).2.1) (zTold_k0 (zW_td hC).2.1) rfl rfl rfl (Nat.le_of_ble_eq_true rfl) dX10_drawWays_5 ⟨Nat.zero_le _, Nat.zero_le _⟩) hS (fun rq Xq Yq Rq H locs hq hH hS => ?_)
  obtain ⟨h92, h91⟩ := hq
  have h93 : Xq = X := congrArg (fun z => z.1) h92
  have h94 : Yq = Y := congrArg (fun z => z.2.1) h92
  have h95 : Rq = R := congrArg (fun z => z.2.2) h92
  rw [h93, h94, h95] at hH
  rw [h91]
  by_cases c1 : 0 ≤ (a) ∧ (a) < 2 ∧ (a) < X (i + 3) 1
  · rw [if_pos c1]
    have hF := hF.1 c1
    refine lv_astore (lv' := [(4, .ref (bs + (i + 9 + 8 * (a : Int).toNat))), (0, .ref (bs + (i))), (1, .int (zI (a))), (2, .int (zI (b))), (3, .int (zI (g)))]) C.1 C.2.1 dX10_drawWays_8 hl (by decide) rfl (fun ls hl => ?_)
    refine lv_aload C.1 C.2.1 dX10_drawWays_10 (lv_at hl 0 rfl) ?_
    refine lv_ifnull C.1 C.2.1 dX10_drawWays_12 ?_
    refine lv_aload C.1 C.2.1 dX10_drawWays_15 (lv_at hl 0 rfl) ?_
    refine lv_iload_n C.1 C.2.1 dX10_drawWays_17 rfl (lv_at hl 3 rfl) ?_
    refine zgoi (zrunV (As := [.int (zI (b))]) (rest := []) C hE hH hS hl.1 (c_X0_has (l := l) (zTd_nb (zW_td hC).2 c1.1 c1.2.1).2.2 (b) hb) k_RX10_153 ⟨Nat.le_of_ble_eq_true rfl, Nat.le_of_ble_eq_true rfl⟩ (zBlocks_n0 (zTd_nb (zW_td hC).2 c1.1 c1.2.1).2.2) (zBlocks_k0 (zTd_nb (zW_td hC).2 c1.1 c1.2.1).2.2) rfl rfl rfl (Nat.le_of_ble_eq_true rfl) dX10_drawWays_18 ⟨Nat.zero_le _, Nat.zero_le _⟩) hS (fun rq Xq Yq Rq H locs hrq hq hH hS => ?_)
    obtain ⟨h91, h92⟩ := hq
    have h93 : Xq = X := congrArg (fun z => z.1) h92
    have h94 : Yq = Y := congrArg (fun z => z.2.1) h92
    have h95 : Rq = R := congrArg (fun z => z.2.2) h92
    rw [h93, h94, h95] at hH
    subst h91
    refine zd_ifB_eq C 33 dX10_drawWays_21 (by decide) (fun c2 => ?_) (fun c2 => ?_)
    · have hF := hF.1 c2
      refine zd_iconst C dX10_drawWays_33 ?_
      exact zd_zret C hr hlk hH hS (by decide) (⟨_, rfl, hF⟩) dX10_drawWays_34
    · have hF := hF.2 c2
      refine lv_aload C.1 C.2.1 dX10_drawWays_24 (lv_at hl 0 rfl) ?_
      refine lv_iload_n C.1 C.2.1 dX10_drawWays_26 rfl (lv_at hl 4 rfl) ?_
      refine zgoi (zrunV (As := [.int (zI (g))]) (rest := []) C hE hH hS hl.1 (c_X0_has (l := l) (zTd_nb (zW_td hC).2 c1.1 c1.2.1).2.2 (g) hg) k_RX10_153 ⟨Nat.le_of_ble_eq_true rfl, Nat.le_of_ble_eq_true rfl⟩ (zBlocks_n0 (zTd_nb (zW_td hC).2 c1.1 c1.2.1).2.2) (zBlocks_k0 (zTd_nb (zW_td hC).2 c1.1 c1.2.1).2.2) rfl rfl rfl (Nat.le_of_ble_eq_true rfl) dX10_drawWays_27 ⟨Nat.zero_le _, Nat.zero_le _⟩) hS (fun rq Xq Yq Rq H locs hrq hq hH hS => ?_)
      obtain ⟨h91, h92⟩ := hq
      have h93 : Xq = X := congrArg (fun z => z.1) h92
      have h94 : Yq = Y := congrArg (fun z => z.2.1) h92
      have h95 : Rq = R := congrArg (fun z => z.2.2) h92
      rw [h93, h94, h95] at hH
      subst h91
      refine zd_ifB_ne C 35 dX10_drawWays_30 (by decide) (fun c3 => ?_) (fun c3 => ?_)
      · have hF := hF.1 c3
        refine lv_aload_n C.1 C.2.1 dX10_drawWays_35 rfl (lv_at hl 1 rfl) ?_
        refine zg10_4 C hH (zW_n hC) (zW_k hC) q_573 (zW_lw hC).1 dX10_drawWays_36 ?_
        refine lv_aload C.1 C.2.1 dX10_drawWays_39 (lv_at hl 0 rfl) ?_
        obtain ⟨o4, hF⟩ := hF
        refine zgov (zrunV (As := [.ref (bs + (i + 9 + 8 * (a : Int).toNat))]) (rest := []) C hE hH hS hl.1 (c_X1_draw (l := l) (zW_lw hC).2.2.2.1.1 (zTd_nb (zW_td hC).2 c1.1 c1.2.1).2.2  o4) k_RX10_272 ⟨Nat.le_of_ble_eq_true rfl, Nat.le_of_ble_eq_true rfl⟩ (zChart_n0 (zW_lw hC).2.2.2.1.1) (zChart_k0 (zW_lw hC).2.2.2.1.1) rfl rfl rfl (Nat.le_of_ble_eq_true rfl) dX10_drawWays_41 ⟨Nat.zero_le _, Nat.zero_le _⟩) hS (fun X5 Yq R6 H locs hq hH hS => ?_)
        obtain ⟨h9Y, hq⟩ := hq
        dsimp only at h9Y
        rw [h9Y] at hH
        have hF := hF X5 hH.2.2.1 R6 hq
        have hC := zWC_putB hC c1 hq.1
        refine zd_iconst C dX10_drawWays_44 ?_
        exact zd_zret C hr hlk hH hS (by decide) (⟨_, rfl, hF⟩) dX10_drawWays_45
      · have hF := hF.2 c3
        refine zd_iconst C dX10_drawWays_33 ?_
        exact zd_zret C hr hlk hH hS (by decide) (⟨_, rfl, hF⟩) dX10_drawWays_34
  · rw [if_neg c1]
    have hF := hF.2 c1
    refine lv_astoreN (lv' := [(4, .null), (0, .ref (bs + (i))), (1, .int (zI (a))), (2, .int (zI (b))), (3, .int (zI (g)))]) C.1 C.2.1 dX10_drawWays_8 hl (by decide) rfl (fun ls hl => ?_)
    refine lv_aloadN C.1 C.2.1 dX10_drawWays_10 (lv_at hl 0 rfl) ?_
    refine lv_ifnullN (tgt := 33) C.1 C.2.1 dX10_drawWays_12 (by decide) ?_
    refine zd_iconst C dX10_drawWays_33 ?_
    exact zd_zret C hr hlk hH hS (by decide) (⟨_, rfl, hF⟩) dX10_drawWays_34
theorem v_X10_drawWays {X Y : Nat → Int → Int} {R : Nat → Int → Option Nat} {i : Nat} {Z : Nat → Int → Int} {q : Nat} (a : Int) (ha : rI a) (b : Int) (hb : rI b) (g : Int) (hg : rI g) (hp : wcQ Z q X i) : F_X10_drawWays i Z q X Y R a b g := by
  unfold F_X10_drawWays
  intro hX hY
  obtain ⟨hO, hT, hI⟩ := hp
  refine ⟨?_, ?_⟩
  · intro c1
    have tc := hT.2.2.1
    have t0 : X (i + 1 + 2) 0 = Z (q + 5) 0 := tc 0 (by decide) (by decide)
    have t1 : X (i + 1 + 2) 1 = Z (q + 5) 1 := tc 1 (by decide) (by decide)
    have q0 := hO.1.1 0 (by decide) (by decide)
    have q1 := hO.1.1 1 (by decide) (by decide)
    obtain ⟨a0, a1, a2⟩ := c1
    have a2 : a < X (i + 1 + 2) 1 := a2
    obtain ⟨an, rfl⟩ := nat_of a0
    have ea : ((an : Nat) : Int).toNat = an := by omega
    rw [ea]
    have hB := hT.2.2.2.2.1 an (by omega)
    rw [show i + 1 + 8 + 8 * an = i + 9 + 8 * an by omega] at hB
    have br := hB.2 a2
    rw [show 366 * (0 : Int) + 183 * (an : Int) = 183 * an by omega] at br
    have hv := hz_v (n := 0) (f := 0) hO.1 a0 (show (an : Int) < Z (q + 5) 1 by omega)
    have bq : X (i + 9 + 8 * an) 0 = qN Z q an := br.1
    have qb : 1 ≤ 1 + qN Z q an ∧ 1 + qN Z q an ≤ 15 := by
      have qb := hv.1
      rw [hZ_s.2.2.2.1] at qb
      exact qb
    have im : mIs q Z 1 an = true := mIs_t.mpr ⟨a0, by omega⟩
    refine ⟨?_, ?_⟩
    · intro c2
      have c2 := of_decide_eq_false c2
      have e : (mIs q Z 1 an && (mIn b 0 (qN Z q an) && mIn g 0 (qN Z q an))) = false := by
        rw [mIn_f.mpr (show ¬ (0 ≤ b ∧ b ≤ qN Z q an) by omega), Bool.false_and, Bool.and_false]
      exact ⟨by unfold wdR; rw [if_neg (by rw [e]; exact fun g => absurd g.2 (by decide))], e.symm, ⟨fun _ _ => rfl, hI⟩, (fun g => by cases g)⟩
    intro c3
    have c3 := of_decide_eq_true c3
    refine ⟨?_, ?_⟩
    · intro c4
      have c4 := of_decide_eq_true c4
      refine ⟨?_, ?_⟩
      · exact ⟨⟨⟨hv, hI⟩, hz_bR hB.1 br⟩, by omega⟩
      intro X5
      intro rX5
      intro R6
      intro h1
      obtain ⟨eR, hd, fo, _⟩ := h1
      have e : (mIs q Z 1 an && (mIn b 0 (qN Z q an) && mIn g 0 (qN Z q an))) = true := by
        rw [im, mIn_t.mpr (show 0 ≤ b ∧ b ≤ qN Z q an by omega), mIn_t.mpr (show 0 ≤ g ∧ g ≤ qN Z q an by omega)]
        rfl
      exact ⟨by unfold wdR; rw [if_pos ⟨⟨a0, a1⟩, e⟩, ea]; exact eR, e.symm, ⟨fun z hz => fo z (by omega) (by omega) (by omega) (by omega), hd.1.2⟩, fun _ => hd⟩
    intro c5
    have c5 := of_decide_eq_false c5
    have e : (mIs q Z 1 an && (mIn b 0 (qN Z q an) && mIn g 0 (qN Z q an))) = false := by
      rw [mIn_f.mpr (show ¬ (0 ≤ g ∧ g ≤ qN Z q an) by omega), Bool.and_false, Bool.and_false]
    exact ⟨by unfold wdR; rw [if_neg (by rw [e]; exact fun g => absurd g.2 (by decide))], e.symm, ⟨fun _ _ => rfl, hI⟩, (fun g => by cases g)⟩
  intro c6
  have tc := hT.2.2.1
  have t0 : X (i + 1 + 2) 0 = Z (q + 5) 0 := tc 0 (by decide) (by decide)
  have t1 : X (i + 1 + 2) 1 = Z (q + 5) 1 := tc 1 (by decide) (by decide)
  have q0 := hO.1.1 0 (by decide) (by decide)
  have q1 := hO.1.1 1 (by decide) (by decide)
  have e : (mIs q Z 1 a && (mIn b 0 (qN Z q a) && mIn g 0 (qN Z q a))) = false := by
    rw [mIs_f.mpr (fun z => c6 ⟨z.1, by omega, by show a < X (i + 1 + 2) 1; omega⟩), Bool.false_and]
  exact ⟨by unfold wdR; rw [if_neg (by rw [e]; exact fun g => absurd g.2 (by decide))], e.symm, ⟨fun _ _ => rfl, hI⟩, (fun g => by cases g)⟩
theorem c_X10_drawWays {l : Launch} {D : va_G} {cy : Nat → ClassId} {bs N : Nat} {sa : Nat → Nat} {kd len : Nat → Nat} {X Y : Nat → Int → Int} {R : Nat → Int → Option Nat} {i : Nat} {Z : Nat → Int → Int} {q : Nat} (hC : zWC N kd len R i) (a : Int) (ha : rI a) (b : Int) (hb : rI b) (g : Int) (hg : rI g) (hp : wcQ Z q X i) : Met l yX10_drawWays (.code yX10_drawWays cX10_drawWays 5 (some .boolean) :: zTB) (zRm 2 83) (zPc D cy bs sa N kd len X Y R [.ref (bs + (i)), .int (zI (a)), .int (zI (b)), .int (zI (g))]) (zQi D cy bs N kd len (fun r st => ∃ rb : Bool, r = bz rb ∧ (((st.2.2) = wdR Z q R i (a) (b) (g)) ∧ rb = (mIs q Z 1 (a) && (mIn (b) 0 (qN Z q (a)) && mIn (g) 0 (qN Z q (a)))) ∧ qK X (st.1) i ∧ (rb = true → dR (hZ Z q 0 (a) 0) q (st.1) (st.2.2) (i + 157))))) 0 0 (zA bs) := w_X10_drawWays hC a ha b hb g hg (v_X10_drawWays a ha b hb g hg hp)
abbrev cX10_meet : ByteArray := prog_1_method_34_code
def yX10_meet : MethodName := ⟨RX10, "meet", "(III)I"⟩
theorem dX10_meet_0 : decode cX10_meet 0 = .ok (.aload_n 0, 1) := by decide +kernel
theorem dX10_meet_1 : decode cX10_meet 1 = .ok (.iload_n 1, 1) := by decide +kernel
theorem dX10_meet_2 : decode cX10_meet 2 = .ok (.iload_n 2, 1) := by decide +kernel
theorem dX10_meet_3 : decode cX10_meet 3 = .ok (.iload_n 3, 1) := by decide +kernel
theorem dX10_meet_4 : decode cX10_meet 4 = .ok (.invokevirtual 387, 3) := by decide +kernel
theorem dX10_meet_7 : decode cX10_meet 7 = .ok (.ifCond .ne 5, 3) := by decide +kernel
theorem dX10_meet_10 : decode cX10_meet 10 = .ok (.iconst (-1), 1) := by decide +kernel
theorem dX10_meet_11 : decode cX10_meet 11 = .ok (.ireturn, 1) := by decide +kernel
theorem dX10_meet_12 : decode cX10_meet 12 = .ok (.aload_n 0, 1) := by decide +kernel
theorem dX10_meet_13 : decode cX10_meet 13 = .ok (.getfield 34, 3) := by decide +kernel
theorem dX10_meet_16 : decode cX10_meet 16 = .ok (.getfield 334, 3) := by decide +kernel
theorem dX10_meet_19 : decode cX10_meet 19 = .ok (.iload_n 2, 1) := by decide +kernel
theorem dX10_meet_20 : decode cX10_meet 20 = .ok (.iaload, 1) := by decide +kernel
theorem dX10_meet_21 : decode cX10_meet 21 = .ok (.aload_n 0, 1) := by decide +kernel
theorem dX10_meet_22 : decode cX10_meet 22 = .ok (.getfield 34, 3) := by decide +kernel
theorem dX10_meet_25 : decode cX10_meet 25 = .ok (.getfield 334, 3) := by decide +kernel
theorem dX10_meet_28 : decode cX10_meet 28 = .ok (.iload_n 3, 1) := by decide +kernel
theorem dX10_meet_29 : decode cX10_meet 29 = .ok (.iaload, 1) := by decide +kernel
theorem dX10_meet_30 : decode cX10_meet 30 = .ok (.iand, 1) := by decide +kernel
theorem dX10_meet_31 : decode cX10_meet 31 = .ok (.invokestatic 390, 3) := by decide +kernel
theorem dX10_meet_34 : decode cX10_meet 34 = .ok (.ireturn, 1) := by decide +kernel
theorem q_1184 : Cond.methodLink RX10 387 yX10_drawWays ∈ zTB := zmem 1184 (by decide +kernel) rfl
theorem q_1186 : Cond.instanceMethod yX10_drawWays ∈ zTB := zmem 1186 (by decide +kernel) rfl
theorem q_28 : Cond.selects RX10 yX10_drawWays yX10_drawWays ∈ zTB := zmem 28 (by decide +kernel) rfl
theorem q_1187 : Cond.code yX10_drawWays cX10_drawWays 5 (some .boolean) ∈ zTB := zmem 1187 (by decide +kernel) rfl
theorem k_RX10_387 : zLv RX10 387 RX10 yX10_drawWays cX10_drawWays 5 (some .boolean) 3 := ⟨⟨q_1184, q_1186, q_28, q_129, q_1187⟩, rfl, ⟨by decide, by decide⟩, by decide +kernel⟩
theorem q_1189 : Cond.static yX10_highest ∈ zTB := zmem 1189 (by decide +kernel) rfl
theorem q_1190 : Cond.code yX10_highest cX10_highest 1 (some .int) ∈ zTB := zmem 1190 (by decide +kernel) rfl
theorem q_1188 : Cond.methodLink RX10 390 yX10_highest ∈ zTB := zmem 1188 (by decide +kernel) rfl
theorem k_RX10_390 : zLs RX10 390 yX10_highest cX10_highest 1 (some .int) 1 := ⟨⟨q_1188, q_1189, q_129, q_1190⟩, ⟨by decide, by decide⟩, by decide +kernel⟩
def F_X10_meet (i : Nat) (Z : Nat → Int → Int) (q : Nat) (X Y : Nat → Int → Int) (R : Nat → Int → Option Nat) (a : Int) (b : Int) (g : Int) : Prop := (∀ i j, rI (X i j)) → (∀ i j, rL (Y i j)) → (wcQ Z q X i) ∧ (∀ r5 : Bool, ∀ X2 : Nat → Int → Int, (∀ i j, rI (X2 i j)) → ∀ Y3 : Nat → Int → Int, (∀ i j, rL (Y3 i j)) → ∀ R4 : Nat → Int → Option Nat, (((R4) = wdR Z q R i (a) (b) (g)) ∧ r5 = (mIs q Z 1 (a) && (mIn (b) 0 (qN Z q (a)) && mIn (g) 0 (qN Z q (a)))) ∧ qK X (X2) i ∧ (r5 = true → dR (hZ Z q 0 (a) 0) q (X2) (R4) (i + 157))) → (((r5 = true) → ((0 ≤ b ∧ b < 15) ∧ ((0 ≤ g ∧ g < 15) ∧ ((0 ≤ (zAnd (X2 (i + 167) (b)) (X2 (i + 167) (g))) ∧ (zAnd (X2 (i + 167) (b)) (X2 (i + 167) (g))) < 32768) ∧ (rI (nbN (zAnd (X2 (i + 167) (b)) (X2 (i + 167) (g))) (mOnes (zAnd (X2 (i + 167) (b)) (X2 (i + 167) (g))) - 1) 15) → (((R4) = wdR Z q R i (a) (b) (g)) ∧ (nbN (zAnd (X2 (i + 167) (b)) (X2 (i + 167) (g))) (mOnes (zAnd (X2 (i + 167) (b)) (X2 (i + 167) (g))) - 1) 15) = rMeet Z q (a) (b) (g) ∧ qK X (X2) i)))))) ∧ ((r5 = false) → (((R4) = wdR Z q R i (a) (b) (g)) ∧ (-1) = rMeet Z q (a) (b) (g) ∧ qK X (X2) i))))
set_option maxHeartbeats 4000000 in
set_option maxRecDepth 100000 in
theorem w_X10_meet {l : Launch} {D : va_G} {cy : Nat → ClassId} {bs N : Nat} {sa : Nat → Nat} {kd len : Nat → Nat} {X Y : Nat → Int → Int} {R : Nat → Int → Option Nat} {i : Nat} {Z : Nat → Int → Int} {q : Nat} (hC : zWC N kd len R i) (a : Int) (ha : rI a) (b : Int) (hb : rI b) (g : Int) (hg : rI g) (hF : F_X10_meet i Z q X Y R a b g) : Met l yX10_meet (.code yX10_meet cX10_meet 4 (some .int) :: zTB) (zRm 3 107) (zPc D cy bs sa N kd len X Y R [.ref (bs + (i)), .int (zI (a)), .int (zI (b)), .int (zI (g))]) (zQi D cy bs N kd len (fun r st => (((st.2.2) = wdR Z q R i (a) (b) (g)) ∧ r = rMeet Z q (a) (b) (g) ∧ qK X (st.1) i))) 0 0 (zA bs) := by
  refine zstart (by decide) (Nat.le_of_ble_eq_true rfl) ?_
  intro p e s m args below meth c ls C hE hH hr hlk hnm hl hargs
  have hF := hF hH.2.2.1 hH.2.2.2
  have hS : va_S (zA bs) s.heap s.heap [] := va_S.rf
  have hl : lv_has ls 4 [(0, .ref (bs + (i))), (1, .int (zI (a))), (2, .int (zI (b))), (3, .int (zI (g)))] := hl
  refine lv_aload_n C.1 C.2.1 dX10_meet_0 rfl (lv_at hl 0 rfl) ?_
  refine lv_iload_n C.1 C.2.1 dX10_meet_1 rfl (lv_at hl 1 rfl) ?_
  refine lv_iload_n C.1 C.2.1 dX10_meet_2 rfl (lv_at hl 2 rfl) ?_
  refine lv_iload_n C.1 C.2.1 dX10_meet_3 rfl (lv_at hl 3 rfl) ?_
  obtain ⟨o1, hF⟩ := hF
  refine zgoi (zrunV (As := [.int (zI (a)), .int (zI (b)), .int (zI (g))]) (rest := []) C hE hH hS hl.1 (c_X10_drawWays (l := l) hC (a) ha (b) hb (g) hg o1) k_RX10_387 ⟨Nat.le_of_ble_eq_true rfl, Nat.le_of_ble_eq_true rfl⟩ (zW_n hC) (zW_k hC) rfl rfl rfl (Nat.le_of_ble_eq_true rfl) dX10_meet_4 ⟨Nat.zero_le _, Nat.zero_le _⟩) hS (fun rq X2 Y3 R4 H locs hrq hq hH hS => ?_)
  obtain ⟨r5, h91, hq⟩ := hq
  subst h91
  have hF := hF r5 X2 hH.2.2.1 Y3 hH.2.2.2 R4 hq
  have hC := zWC_dw hC hq.1
  refine zd_ifB_ne C 12 dX10_meet_7 (by decide) (fun c6 => ?_) (fun c6 => ?_)
  · have hF := hF.1 c6
    refine lv_aload_n C.1 C.2.1 dX10_meet_12 rfl (lv_at hl 0 rfl) ?_
    refine zg10_4 C hH (zW_n hC) (zW_k hC) q_573 (zW_lw hC).1 dX10_meet_13 ?_
    refine zg1_5 C hH (zChart_n0 (zW_lw hC).2.2.2.1.1) (zChart_k0 (zW_lw hC).2.2.2.1.1) q_406 (zChart_r10 (zW_lw hC).2.2.2.1.1) dX10_meet_16 ?_
    refine lv_iload_n C.1 C.2.1 dX10_meet_19 rfl (lv_at hl 2 rfl) ?_
    obtain ⟨o7, hF⟩ := hF
    refine zd_iald C hH (zChart_n10 (zW_lw hC).2.2.2.1.1) (zChart_k10 (zW_lw hC).2.2.2.1.1) o7.1 (by rw [zChart_l10 (zW_lw hC).2.2.2.1.1]; exact o7.2) (by rw [zChart_l10 (zW_lw hC).2.2.2.1.1]; decide) dX10_meet_20 ?_
    refine lv_aload_n C.1 C.2.1 dX10_meet_21 rfl (lv_at hl 0 rfl) ?_
    refine zg10_4 C hH (zW_n hC) (zW_k hC) q_573 (zW_lw hC).1 dX10_meet_22 ?_
    refine zg1_5 C hH (zChart_n0 (zW_lw hC).2.2.2.1.1) (zChart_k0 (zW_lw hC).2.2.2.1.1) q_406 (zChart_r10 (zW_lw hC).2.2.2.1.1) dX10_meet_25 ?_
    refine lv_iload_n C.1 C.2.1 dX10_meet_28 rfl (lv_at hl 3 rfl) ?_
    obtain ⟨o8, hF⟩ := hF
    refine zd_iald C hH (zChart_n10 (zW_lw hC).2.2.2.1.1) (zChart_k10 (zW_lw hC).2.2.2.1.1) o8.1 (by rw [zChart_l10 (zW_lw hC).2.2.2.1.1]; exact o8.2) (by rw [zChart_l10 (zW_lw hC).2.2.2.1.1]; decide) dX10_meet_29 ?_
    refine zd_iand C dX10_meet_30 ?_
    obtain ⟨o9, hF⟩ := hF
    refine zgoi (zrunS (As := [.int (zI (zAnd (X2 (i + 167) (b)) (X2 (i + 167) (g))))]) (rest := []) C hE hH hS hl.1 (c_X10_highest (l := l)  (zAnd (X2 (i + 167) (b)) (X2 (i + 167) (g))) (zI_rg _) o9) k_RX10_390 ⟨Nat.le_of_ble_eq_true rfl, Nat.le_of_ble_eq_true rfl⟩ rfl (Nat.le_of_ble_eq_true rfl) dX10_meet_31 ⟨Nat.zero_le _, Nat.zero_le _⟩) hS (fun rq Xq Yq Rq H locs hrq hq hH hS => ?_)
    obtain ⟨h91, h92⟩ := hq
    have h93 : Xq = X2 := congrArg (fun z => z.1) h92
    have h94 : Yq = Y3 := congrArg (fun z => z.2.1) h92
    have h95 : Rq = R4 := congrArg (fun z => z.2.2) h92
    rw [h93, h94, h95] at hH
    subst h91
    have hr10 := hrq
    have hF := hF hr10
    exact zd_iret C hr hlk hH hS hr10 (hF) dX10_meet_34
  · have hF := hF.2 c6
    refine zd_iconst C dX10_meet_10 ?_
    exact zd_iret C hr hlk hH hS (by decide) (hF) dX10_meet_11
theorem v_X10_meet {X Y : Nat → Int → Int} {R : Nat → Int → Option Nat} {i : Nat} {Z : Nat → Int → Int} {q : Nat} (a : Int) (ha : rI a) (b : Int) (hb : rI b) (g : Int) (hg : rI g) (hp : wcQ Z q X i) : F_X10_meet i Z q X Y R a b g := by
  unfold F_X10_meet
  intro hX hY
  refine ⟨?_, ?_⟩
  · exact hp
  intro r5
  intro X2
  intro rX2
  intro Y3
  intro rY3
  intro R4
  intro h1
  obtain ⟨eR, er, hk, ht⟩ := h1
  refine ⟨?_, ?_⟩
  · intro c1
    have hd := ht c1
    have e := er.symm.trans c1
    rw [Bool.and_eq_true, Bool.and_eq_true, mIn_t, mIn_t] at e
    have hv := hd.1.1
    have vn := vZ_n hv
    have eN : hZ Z q 0 a 0 q 27 = 1 + qN Z q a := hZ_s.2.2.2.1
    have hP := vZ_p hv
    obtain ⟨bn, rfl⟩ := nat_of (show 0 ≤ b by omega)
    have eb : ((bn : Nat) : Int).toNat = bn := by omega
    have wb : ∀ X9, X9 = X2 → X9 (i + 167) bn = wyP (qP Z q a) bn := fun X9 hX => by rw [hX]; exact (hd.2.2.2 bn (by omega)).2.1
    obtain ⟨gn, rfl⟩ := nat_of (show 0 ≤ g by omega)
    have eg : ((gn : Nat) : Int).toNat = gn := by omega
    have wg : ∀ X9, X9 = X2 → X9 (i + 167) gn = wyP (qP Z q a) gn := fun X9 hX => by rw [hX]; exact (hd.2.2.2 gn (by omega)).2.1
    have wb := wb X2 rfl
    have wg := wg X2 rfl
    rw [wb, wg]
    refine ⟨?_, ?_⟩
    · omega
    refine ⟨?_, ?_⟩
    · omega
    refine ⟨?_, ?_⟩
    · exact and_sm wy_sm
    intro _
    refine ⟨eR, ?_, hk⟩
    unfold rMeet
    rw [e.1, mIn_t.mpr e.2.1, mIn_t.mpr e.2.2, eb, eg]
    refine nbN_mLst ?_ 15 (Nat.le_refl _)
    have h0 : ∀ k : Nat, k < 15 → mHas (wyP (qP Z q a) k) 0 = onW (qP Z q a) k 0 := fun k hk => wy_has (j := 0) (by omega)
    have g : mHas (zAnd (wyP (qP Z q a) bn) (wyP (qP Z q a) gn)) 0 = (mHas (wyP (qP Z q a) bn) 0 && mHas (wyP (qP Z q a) gn) 0) := by
      have := mHas_zb (s := zAnd (wyP (qP Z q a) bn) (wyP (qP Z q a) gn)) (k := 0) (by omega)
      rw [show ((0 : Nat) : Int) = 0 from rfl] at this
      rw [this, zb_and, ← mHas_zb _ (by omega), ← mHas_zb _ (by omega)]
      rfl
    rw [g, h0 bn (by omega), h0 gn (by omega), onW_z hP bn (by omega), onW_z hP gn (by omega)]
    rfl
  intro c2
  refine ⟨eR, ?_, hk⟩
  have e := er.symm.trans c2
  unfold rMeet
  rw [e]
  rfl
theorem c_X10_meet {l : Launch} {D : va_G} {cy : Nat → ClassId} {bs N : Nat} {sa : Nat → Nat} {kd len : Nat → Nat} {X Y : Nat → Int → Int} {R : Nat → Int → Option Nat} {i : Nat} {Z : Nat → Int → Int} {q : Nat} (hC : zWC N kd len R i) (a : Int) (ha : rI a) (b : Int) (hb : rI b) (g : Int) (hg : rI g) (hp : wcQ Z q X i) : Met l yX10_meet (.code yX10_meet cX10_meet 4 (some .int) :: zTB) (zRm 3 107) (zPc D cy bs sa N kd len X Y R [.ref (bs + (i)), .int (zI (a)), .int (zI (b)), .int (zI (g))]) (zQi D cy bs N kd len (fun r st => (((st.2.2) = wdR Z q R i (a) (b) (g)) ∧ r = rMeet Z q (a) (b) (g) ∧ qK X (st.1) i))) 0 0 (zA bs) := w_X10_meet hC a ha b hb g hg (v_X10_meet a ha b hb g hg hp)

abbrev cX10_path : ByteArray := prog_1_method_35_code
def yX10_path : MethodName := ⟨RX10, "path", "(IIII)I"⟩
theorem dX10_path_0 : decode cX10_path 0 = .ok (.aload_n 0, 1) := by decide +kernel
theorem dX10_path_1 : decode cX10_path 1 = .ok (.iload_n 1, 1) := by decide +kernel
theorem dX10_path_2 : decode cX10_path 2 = .ok (.iload_n 2, 1) := by decide +kernel
theorem dX10_path_3 : decode cX10_path 3 = .ok (.iload_n 3, 1) := by decide +kernel
theorem dX10_path_4 : decode cX10_path 4 = .ok (.invokevirtual 387, 3) := by decide +kernel
theorem dX10_path_7 : decode cX10_path 7 = .ok (.ifCond .ne 5, 3) := by decide +kernel
theorem dX10_path_10 : decode cX10_path 10 = .ok (.iconst (-1), 1) := by decide +kernel
theorem dX10_path_11 : decode cX10_path 11 = .ok (.ireturn, 1) := by decide +kernel
theorem dX10_path_12 : decode cX10_path 12 = .ok (.aload_n 0, 1) := by decide +kernel
theorem dX10_path_13 : decode cX10_path 13 = .ok (.getfield 34, 3) := by decide +kernel
theorem dX10_path_16 : decode cX10_path 16 = .ok (.getfield 334, 3) := by decide +kernel
theorem dX10_path_19 : decode cX10_path 19 = .ok (.iload_n 2, 1) := by decide +kernel
theorem dX10_path_20 : decode cX10_path 20 = .ok (.iaload, 1) := by decide +kernel
theorem dX10_path_21 : decode cX10_path 21 = .ok (.aload_n 0, 1) := by decide +kernel
theorem dX10_path_22 : decode cX10_path 22 = .ok (.getfield 34, 3) := by decide +kernel
theorem dX10_path_25 : decode cX10_path 25 = .ok (.getfield 334, 3) := by decide +kernel
theorem dX10_path_28 : decode cX10_path 28 = .ok (.iload_n 3, 1) := by decide +kernel
theorem dX10_path_29 : decode cX10_path 29 = .ok (.iaload, 1) := by decide +kernel
theorem dX10_path_30 : decode cX10_path 30 = .ok (.iconst (-1), 1) := by decide +kernel
theorem dX10_path_31 : decode cX10_path 31 = .ok (.ixor, 1) := by decide +kernel
theorem dX10_path_32 : decode cX10_path 32 = .ok (.iand, 1) := by decide +kernel
theorem dX10_path_33 : decode cX10_path 33 = .ok (.istore 5, 2) := by decide +kernel
theorem dX10_path_35 : decode cX10_path 35 = .ok (.aload_n 0, 1) := by decide +kernel
theorem dX10_path_36 : decode cX10_path 36 = .ok (.getfield 34, 3) := by decide +kernel
theorem dX10_path_39 : decode cX10_path 39 = .ok (.getfield 334, 3) := by decide +kernel
theorem dX10_path_42 : decode cX10_path 42 = .ok (.iload_n 3, 1) := by decide +kernel
theorem dX10_path_43 : decode cX10_path 43 = .ok (.iaload, 1) := by decide +kernel
theorem dX10_path_44 : decode cX10_path 44 = .ok (.aload_n 0, 1) := by decide +kernel
theorem dX10_path_45 : decode cX10_path 45 = .ok (.getfield 34, 3) := by decide +kernel
theorem dX10_path_48 : decode cX10_path 48 = .ok (.getfield 334, 3) := by decide +kernel
theorem dX10_path_51 : decode cX10_path 51 = .ok (.iload_n 2, 1) := by decide +kernel
theorem dX10_path_52 : decode cX10_path 52 = .ok (.iaload, 1) := by decide +kernel
theorem dX10_path_53 : decode cX10_path 53 = .ok (.iconst (-1), 1) := by decide +kernel
theorem dX10_path_54 : decode cX10_path 54 = .ok (.ixor, 1) := by decide +kernel
theorem dX10_path_55 : decode cX10_path 55 = .ok (.iand, 1) := by decide +kernel
theorem dX10_path_56 : decode cX10_path 56 = .ok (.istore 6, 2) := by decide +kernel
theorem dX10_path_58 : decode cX10_path 58 = .ok (.iload 5, 2) := by decide +kernel
theorem dX10_path_60 : decode cX10_path 60 = .ok (.invokestatic 317, 3) := by decide +kernel
theorem dX10_path_63 : decode cX10_path 63 = .ok (.istore 7, 2) := by decide +kernel
theorem dX10_path_65 : decode cX10_path 65 = .ok (.iload 7, 2) := by decide +kernel
theorem dX10_path_67 : decode cX10_path 67 = .ok (.iload 6, 2) := by decide +kernel
theorem dX10_path_69 : decode cX10_path 69 = .ok (.invokestatic 317, 3) := by decide +kernel
theorem dX10_path_72 : decode cX10_path 72 = .ok (.iadd, 1) := by decide +kernel
theorem dX10_path_73 : decode cX10_path 73 = .ok (.istore 8, 2) := by decide +kernel
theorem dX10_path_75 : decode cX10_path 75 = .ok (.iload 4, 2) := by decide +kernel
theorem dX10_path_77 : decode cX10_path 77 = .ok (.iconst (-1), 1) := by decide +kernel
theorem dX10_path_78 : decode cX10_path 78 = .ok (.if_icmp .ne 6, 3) := by decide +kernel
theorem dX10_path_81 : decode cX10_path 81 = .ok (.iload 8, 2) := by decide +kernel
theorem dX10_path_83 : decode cX10_path 83 = .ok (.ireturn, 1) := by decide +kernel
theorem dX10_path_84 : decode cX10_path 84 = .ok (.iload 4, 2) := by decide +kernel
theorem dX10_path_86 : decode cX10_path 86 = .ok (.ifCond .lt 10, 3) := by decide +kernel
theorem dX10_path_89 : decode cX10_path 89 = .ok (.iload 4, 2) := by decide +kernel
theorem dX10_path_91 : decode cX10_path 91 = .ok (.iload 8, 2) := by decide +kernel
theorem dX10_path_93 : decode cX10_path 93 = .ok (.if_icmp .lt 5, 3) := by decide +kernel
theorem dX10_path_96 : decode cX10_path 96 = .ok (.iconst (-1), 1) := by decide +kernel
theorem dX10_path_97 : decode cX10_path 97 = .ok (.ireturn, 1) := by decide +kernel
theorem dX10_path_98 : decode cX10_path 98 = .ok (.iload 4, 2) := by decide +kernel
theorem dX10_path_100 : decode cX10_path 100 = .ok (.iload 7, 2) := by decide +kernel
theorem dX10_path_102 : decode cX10_path 102 = .ok (.if_icmp .ge 18, 3) := by decide +kernel
theorem dX10_path_105 : decode cX10_path 105 = .ok (.iload 5, 2) := by decide +kernel
theorem dX10_path_107 : decode cX10_path 107 = .ok (.iload 7, 2) := by decide +kernel
theorem dX10_path_109 : decode cX10_path 109 = .ok (.iconst 1, 1) := by decide +kernel
theorem dX10_path_110 : decode cX10_path 110 = .ok (.isub, 1) := by decide +kernel
theorem dX10_path_111 : decode cX10_path 111 = .ok (.iload 4, 2) := by decide +kernel
theorem dX10_path_113 : decode cX10_path 113 = .ok (.isub, 1) := by decide +kernel
theorem dX10_path_114 : decode cX10_path 114 = .ok (.invokestatic 393, 3) := by decide +kernel
theorem dX10_path_117 : decode cX10_path 117 = .ok (.goto 13, 3) := by decide +kernel
theorem dX10_path_120 : decode cX10_path 120 = .ok (.iload 6, 2) := by decide +kernel
theorem dX10_path_122 : decode cX10_path 122 = .ok (.iload 4, 2) := by decide +kernel
theorem dX10_path_124 : decode cX10_path 124 = .ok (.iload 7, 2) := by decide +kernel
theorem dX10_path_126 : decode cX10_path 126 = .ok (.isub, 1) := by decide +kernel
theorem dX10_path_127 : decode cX10_path 127 = .ok (.invokestatic 393, 3) := by decide +kernel
theorem dX10_path_130 : decode cX10_path 130 = .ok (.ireturn, 1) := by decide +kernel
def F_X10_path (i : Nat) (Z : Nat → Int → Int) (q : Nat) (X Y : Nat → Int → Int) (R : Nat → Int → Option Nat) (a : Int) (b : Int) (g : Int) (d : Int) : Prop := (∀ i j, rI (X i j)) → (∀ i j, rL (Y i j)) → (wcQ Z q X i) ∧ (∀ r5 : Bool, ∀ X2 : Nat → Int → Int, (∀ i j, rI (X2 i j)) → ∀ Y3 : Nat → Int → Int, (∀ i j, rL (Y3 i j)) → ∀ R4 : Nat → Int → Option Nat, (((R4) = wdR Z q R i (a) (b) (g)) ∧ r5 = (mIs q Z 1 (a) && (mIn (b) 0 (qN Z q (a)) && mIn (g) 0 (qN Z q (a)))) ∧ qK X (X2) i ∧ (r5 = true → dR (hZ Z q 0 (a) 0) q (X2) (R4) (i + 157))) → (((r5 = true) → ((0 ≤ b ∧ b < 15) ∧ ((0 ≤ g ∧ g < 15) ∧ ((0 ≤ g ∧ g < 15) ∧ ((0 ≤ b ∧ b < 15) ∧ (rI (mBc (zAnd (X2 (i + 167) (b)) (zXor (X2 (i + 167) (g)) ((-1))))) → (rI (mBc (zAnd (X2 (i + 167) (g)) (zXor (X2 (i + 167) (b)) ((-1))))) → (((¬ d = (-1)) → (((d < 0) → (((R4) = wdR Z q R i (a) (b) (g)) ∧ (-1) = rPath Z q (a) (b) (g) (d) ∧ qK X (X2) i)) ∧ ((¬ (d < 0)) → ((rI ((mBc (zAnd (X2 (i + 167) (b)) (zXor (X2 (i + 167) (g)) ((-1))))) + (mBc (zAnd (X2 (i + 167) (g)) (zXor (X2 (i + 167) (b)) ((-1))))))) ∧ (((d < ((mBc (zAnd (X2 (i + 167) (b)) (zXor (X2 (i + 167) (g)) ((-1))))) + (mBc (zAnd (X2 (i + 167) (g)) (zXor (X2 (i + 167) (b)) ((-1))))))) → ((((mBc (zAnd (X2 (i + 167) (b)) (zXor (X2 (i + 167) (g)) ((-1))))) ≤ d) → ((rI (d - (mBc (zAnd (X2 (i + 167) (b)) (zXor (X2 (i + 167) (g)) ((-1))))))) ∧ (rI (nbN (zAnd (X2 (i + 167) (g)) (zXor (X2 (i + 167) (b)) ((-1)))) (d - (mBc (zAnd (X2 (i + 167) (b)) (zXor (X2 (i + 167) (g)) ((-1)))))) 15) → (((R4) = wdR Z q R i (a) (b) (g)) ∧ (nbN (zAnd (X2 (i + 167) (g)) (zXor (X2 (i + 167) (b)) ((-1)))) (d - (mBc (zAnd (X2 (i + 167) (b)) (zXor (X2 (i + 167) (g)) ((-1)))))) 15) = rPath Z q (a) (b) (g) (d) ∧ qK X (X2) i)))) ∧ ((¬ ((mBc (zAnd (X2 (i + 167) (b)) (zXor (X2 (i + 167) (g)) ((-1))))) ≤ d)) → ((rI (((mBc (zAnd (X2 (i + 167) (b)) (zXor (X2 (i + 167) (g)) ((-1))))) - 1) - d)) ∧ (rI (nbN (zAnd (X2 (i + 167) (b)) (zXor (X2 (i + 167) (g)) ((-1)))) (((mBc (zAnd (X2 (i + 167) (b)) (zXor (X2 (i + 167) (g)) ((-1))))) - 1) - d) 15) → (((R4) = wdR Z q R i (a) (b) (g)) ∧ (nbN (zAnd (X2 (i + 167) (b)) (zXor (X2 (i + 167) (g)) ((-1)))) (((mBc (zAnd (X2 (i + 167) (b)) (zXor (X2 (i + 167) (g)) ((-1))))) - 1) - d) 15) = rPath Z q (a) (b) (g) (d) ∧ qK X (X2) i)))))) ∧ ((¬ (d < ((mBc (zAnd (X2 (i + 167) (b)) (zXor (X2 (i + 167) (g)) ((-1))))) + (mBc (zAnd (X2 (i + 167) (g)) (zXor (X2 (i + 167) (b)) ((-1)))))))) → (((R4) = wdR Z q R i (a) (b) (g)) ∧ (-1) = rPath Z q (a) (b) (g) (d) ∧ qK X (X2) i))))))) ∧ ((¬ (¬ d = (-1))) → ((rI ((mBc (zAnd (X2 (i + 167) (b)) (zXor (X2 (i + 167) (g)) ((-1))))) + (mBc (zAnd (X2 (i + 167) (g)) (zXor (X2 (i + 167) (b)) ((-1))))))) ∧ (((R4) = wdR Z q R i (a) (b) (g)) ∧ ((mBc (zAnd (X2 (i + 167) (b)) (zXor (X2 (i + 167) (g)) ((-1))))) + (mBc (zAnd (X2 (i + 167) (g)) (zXor (X2 (i + 167) (b)) ((-1)))))) = rPath Z q (a) (b) (g) (d) ∧ qK X (X2) i))))))))))) ∧ ((r5 = false) → (((R4) = wdR Z q R i (a) (b) (g)) ∧ (-1) = rPath Z q (a) (b) (g) (d) ∧ qK X (X2) i))))
set_option maxHeartbeats 4000000 in
set_option maxRecDepth 100000 in
theorem w_X10_path {l : Launch} {D : va_G} {cy : Nat → ClassId} {bs N : Nat} {sa : Nat → Nat} {kd len : Nat → Nat} {X Y : Nat → Int → Int} {R : Nat → Int → Option Nat} {i : Nat} {Z : Nat → Int → Int} {q : Nat} (hC : zWC N kd len R i) (a : Int) (ha : rI a) (b : Int) (hb : rI b) (g : Int) (hg : rI g) (d : Int) (hd : rI d) (hF : F_X10_path i Z q X Y R a b g d) : Met l yX10_path (.code yX10_path cX10_path 9 (some .int) :: zTB) (zRm 3 107) (zPc D cy bs sa N kd len X Y R [.ref (bs + (i)), .int (zI (a)), .int (zI (b)), .int (zI (g)), .int (zI (d))]) (zQi D cy bs N kd len (fun r st => (((st.2.2) = wdR Z q R i (a) (b) (g)) ∧ r = rPath Z q (a) (b) (g) (d) ∧ qK X (st.1) i))) 0 0 (zA bs) := by
  refine zstart (by decide) (Nat.le_of_ble_eq_true rfl) ?_
  intro p e s m args below meth c ls C hE hH hr hlk hnm hl hargs
  have hF := hF hH.2.2.1 hH.2.2.2
  have hS : va_S (zA bs) s.heap s.heap [] := va_S.rf
  have hl : lv_has ls 9 [(0, .ref (bs + (i))), (1, .int (zI (a))), (2, .int (zI (b))), (3, .int (zI (g))), (4, .int (zI (d)))] := hl
  refine lv_aload_n C.1 C.2.1 dX10_path_0 rfl (lv_at hl 0 rfl) ?_
  refine lv_iload_n C.1 C.2.1 dX10_path_1 rfl (lv_at hl 1 rfl) ?_
  refine lv_iload_n C.1 C.2.1 dX10_path_2 rfl (lv_at hl 2 rfl) ?_
  refine lv_iload_n C.1 C.2.1 dX10_path_3 rfl (lv_at hl 3 rfl) ?_
  obtain ⟨o1, hF⟩ := hF
  refine zgoi (zrunV (As := [.int (zI (a)), .int (zI (b)), .int (zI (g))]) (rest := []) C hE hH hS hl.1 (c_X10_drawWays (l := l) hC (a) ha (b) hb (g) hg o1) k_RX10_387 ⟨Nat.le_of_ble_eq_true rfl, Nat.le_of_ble_eq_true rfl⟩ (zW_n hC) (zW_k hC) rfl rfl rfl (Nat.le_of_ble_eq_true rfl) dX10_path_4 ⟨Nat.zero_le _, Nat.zero_le _⟩) hS (fun rq X2 Y3 R4 H locs hrq hq hH hS => ?_)
  obtain ⟨r5, h91, hq⟩ := hq
  subst h91
  have hF := hF r5 X2 hH.2.2.1 Y3 hH.2.2.2 R4 hq
  have hC := zWC_dw hC hq.1
  refine zd_ifB_ne C 12 dX10_path_7 (by decide) (fun c6 => ?_) (fun c6 => ?_)
  · have hF := hF.1 c6
    refine lv_aload_n C.1 C.2.1 dX10_path_12 rfl (lv_at hl 0 rfl) ?_
    refine zg10_4 C hH (zW_n hC) (zW_k hC) q_573 (zW_lw hC).1 dX10_path_13 ?_
    refine zg1_5 C hH (zChart_n0 (zW_lw hC).2.2.2.1.1) (zChart_k0 (zW_lw hC).2.2.2.1.1) q_406 (zChart_r10 (zW_lw hC).2.2.2.1.1) dX10_path_16 ?_
    refine lv_iload_n C.1 C.2.1 dX10_path_19 rfl (lv_at hl 2 rfl) ?_
    obtain ⟨o7, hF⟩ := hF
    refine zd_iald C hH (zChart_n10 (zW_lw hC).2.2.2.1.1) (zChart_k10 (zW_lw hC).2.2.2.1.1) o7.1 (by rw [zChart_l10 (zW_lw hC).2.2.2.1.1]; exact o7.2) (by rw [zChart_l10 (zW_lw hC).2.2.2.1.1]; decide) dX10_path_20 ?_
    refine lv_aload_n C.1 C.2.1 dX10_path_21 rfl (lv_at hl 0 rfl) ?_
    refine zg10_4 C hH (zW_n hC) (zW_k hC) q_573 (zW_lw hC).1 dX10_path_22 ?_
    refine zg1_5 C hH (zChart_n0 (zW_lw hC).2.2.2.1.1) (zChart_k0 (zW_lw hC).2.2.2.1.1) q_406 (zChart_r10 (zW_lw hC).2.2.2.1.1) dX10_path_25 ?_
    refine lv_iload_n C.1 C.2.1 dX10_path_28 rfl (lv_at hl 3 rfl) ?_
    obtain ⟨o8, hF⟩ := hF
    refine zd_iald C hH (zChart_n10 (zW_lw hC).2.2.2.1.1) (zChart_k10 (zW_lw hC).2.2.2.1.1) o8.1 (by rw [zChart_l10 (zW_lw hC).2.2.2.1.1]; exact o8.2) (by rw [zChart_l10 (zW_lw hC).2.2.2.1.1]; decide) dX10_path_29 ?_
    refine zd_iconst C dX10_path_30 ?_
    refine zd_ixor C dX10_path_31 ?_
    refine zd_iand C dX10_path_32 ?_
    refine lv_istore (lv' := [(5, .int (zI (zAnd (X2 (i + 167) (b)) (zXor (X2 (i + 167) (g)) ((-1)))))), (0, .ref (bs + (i))), (1, .int (zI (a))), (2, .int (zI (b))), (3, .int (zI (g))), (4, .int (zI (d)))]) C.1 C.2.1 dX10_path_33 hl (by decide) rfl (fun ls hl => ?_)
    refine lv_aload_n C.1 C.2.1 dX10_path_35 rfl (lv_at hl 1 rfl) ?_
    refine zg10_4 C hH (zW_n hC) (zW_k hC) q_573 (zW_lw hC).1 dX10_path_36 ?_
    refine zg1_5 C hH (zChart_n0 (zW_lw hC).2.2.2.1.1) (zChart_k0 (zW_lw hC).2.2.2.1.1) q_406 (zChart_r10 (zW_lw hC).2.2.2.1.1) dX10_path_39 ?_
    refine lv_iload_n C.1 C.2.1 dX10_path_42 rfl (lv_at hl 4 rfl) ?_
    obtain ⟨o9, hF⟩ := hF
    refine zd_iald C hH (zChart_n10 (zW_lw hC).2.2.2.1.1) (zChart_k10 (zW_lw hC).2.2.2.1.1) o9.1 (by rw [zChart_l10 (zW_lw hC).2.2.2.1.1]; exact o9.2) (by rw [zChart_l10 (zW_lw hC).2.2.2.1.1]; decide) dX10_path_43 ?_
    refine lv_aload_n C.1 C.2.1 dX10_path_44 rfl (lv_at hl 1 rfl) ?_
    refine zg10_4 C hH (zW_n hC) (zW_k hC) q_573 (zW_lw hC).1 dX10_path_45 ?_
    refine zg1_5 C hH (zChart_n0 (zW_lw hC).2.2.2.1.1) (zChart_k0 (zW_lw hC).2.2.2.1.1) q_406 (zChart_r10 (zW_lw hC).2.2.2.1.1) dX10_path_48 ?_
    refine lv_iload_n C.1 C.2.1 dX10_path_51 rfl (lv_at hl 3 rfl) ?_
    obtain ⟨o10, hF⟩ := hF
    refine zd_iald C hH (zChart_n10 (zW_lw hC).2.2.2.1.1) (zChart_k10 (zW_lw hC).2.2.2.1.1) o10.1 (by rw [zChart_l10 (zW_lw hC).2.2.2.1.1]; exact o10.2) (by rw [zChart_l10 (zW_lw hC).2.2.2.1.1]; decide) dX10_path_52 ?_
    refine zd_iconst C dX10_path_53 ?_
    refine zd_ixor C dX10_path_54 ?_
    refine zd_iand C dX10_path_55 ?_
    refine lv_istore (lv' := [(6, .int (zI (zAnd (X2 (i + 167) (g)) (zXor (X2 (i + 167) (b)) ((-1)))))), (5, .int (zI (zAnd (X2 (i + 167) (b)) (zXor (X2 (i + 167) (g)) ((-1)))))), (0, .ref (bs + (i))), (1, .int (zI (a))), (2, .int (zI (b))), (3, .int (zI (g))), (4, .int (zI (d)))]) C.1 C.2.1 dX10_path_56 hl (by decide) rfl (fun ls hl => ?_)
    refine lv_iload C.1 C.2.1 dX10_path_58 (lv_at hl 1 rfl) ?_
    refine zgoi (zrunS (As := [.int (zI (zAnd (X2 (i + 167) (b)) (zXor (X2 (i + 167) (g)) ((-1)))))]) (rest := []) C hE hH hS hl.1 (c_J6_bitCount_0f7a4 (l := l)  (zAnd (X2 (i + 167) (b)) (zXor (X2 (i + 167) (g)) ((-1)))) (zI_rg _)) k_RX10_317 ⟨Nat.le_of_ble_eq_true rfl, Nat.le_of_ble_eq_true rfl⟩ rfl (Nat.le_of_ble_eq_true rfl) dX10_path_60 ⟨Nat.zero_le _, Nat.zero_le _⟩) hS (fun rq Xq Yq Rq H locs hrq hq hH hS => ?_)
    obtain ⟨h91, h92⟩ := hq
    have h93 : Xq = X2 := congrArg (fun z => z.1) h92
    have h94 : Yq = Y3 := congrArg (fun z => z.2.1) h92
    have h95 : Rq = R4 := congrArg (fun z => z.2.2) h92
    rw [h93, h94, h95] at hH
    subst h91
    have hr11 := hrq
    have hF := hF hr11
    refine lv_istore (lv' := [(7, .int (zI (mBc (zAnd (X2 (i + 167) (b)) (zXor (X2 (i + 167) (g)) ((-1))))))), (6, .int (zI (zAnd (X2 (i + 167) (g)) (zXor (X2 (i + 167) (b)) ((-1)))))), (5, .int (zI (zAnd (X2 (i + 167) (b)) (zXor (X2 (i + 167) (g)) ((-1)))))), (0, .ref (bs + (i))), (1, .int (zI (a))), (2, .int (zI (b))), (3, .int (zI (g))), (4, .int (zI (d)))]) C.1 C.2.1 dX10_path_63 hl (by decide) rfl (fun ls hl => ?_)
    refine lv_iload C.1 C.2.1 dX10_path_65 (lv_at hl 0 rfl) ?_
    refine lv_iload C.1 C.2.1 dX10_path_67 (lv_at hl 1 rfl) ?_
    refine zgoi (zrunS (As := [.int (zI (zAnd (X2 (i + 167) (g)) (zXor (X2 (i + 167) (b)) ((-1)))))]) (rest := [.int (zI (mBc (zAnd (X2 (i + 167) (b)) (zXor (X2 (i + 167) (g)) ((-1))))))]) C hE hH hS hl.1 (c_J6_bitCount_0f7a4 (l := l)  (zAnd (X2 (i + 167) (g)) (zXor (X2 (i + 167) (b)) ((-1)))) (zI_rg _)) k_RX10_317 ⟨Nat.le_of_ble_eq_true rfl, Nat.le_of_ble_eq_true rfl⟩ rfl (Nat.le_of_ble_eq_true rfl) dX10_path_69 ⟨Nat.zero_le _, Nat.zero_le _⟩) hS (fun rq Xq Yq Rq H locs hrq hq hH hS => ?_)
    obtain ⟨h91, h92⟩ := hq
    have h93 : Xq = X2 := congrArg (fun z => z.1) h92
    have h94 : Yq = Y3 := congrArg (fun z => z.2.1) h92
    have h95 : Rq = R4 := congrArg (fun z => z.2.2) h92
    rw [h93, h94, h95] at hH
    subst h91
    have hr12 := hrq
    have hF := hF hr12
    refine zd_iadd C dX10_path_72 ?_
    refine lv_istore (lv' := [(8, .int (zI ((mBc (zAnd (X2 (i + 167) (b)) (zXor (X2 (i + 167) (g)) ((-1))))) + (mBc (zAnd (X2 (i + 167) (g)) (zXor (X2 (i + 167) (b)) ((-1)))))))), (7, .int (zI (mBc (zAnd (X2 (i + 167) (b)) (zXor (X2 (i + 167) (g)) ((-1))))))), (6, .int (zI (zAnd (X2 (i + 167) (g)) (zXor (X2 (i + 167) (b)) ((-1)))))), (5, .int (zI (zAnd (X2 (i + 167) (b)) (zXor (X2 (i + 167) (g)) ((-1)))))), (0, .ref (bs + (i))), (1, .int (zI (a))), (2, .int (zI (b))), (3, .int (zI (g))), (4, .int (zI (d)))]) C.1 C.2.1 dX10_path_73 hl (by decide) rfl (fun ls hl => ?_)
    refine lv_iload C.1 C.2.1 dX10_path_75 (lv_at hl 8 rfl) ?_
    refine zd_iconst C dX10_path_77 ?_
    refine zd_icmp_ne C hd (by decide) 84 dX10_path_78 (by decide) (fun c13 => ?_) (fun c13 => ?_)
    · have hF := hF.1 c13
      refine lv_iload C.1 C.2.1 dX10_path_84 (lv_at hl 8 rfl) ?_
      refine zd_if_lt C hd 96 dX10_path_86 (by decide) (fun c14 => ?_) (fun c14 => ?_)
      · have hF := hF.1 c14
        refine zd_iconst C dX10_path_96 ?_
        exact zd_iret C hr hlk hH hS (by decide) (hF) dX10_path_97
      · have hF := hF.2 c14
        refine lv_iload C.1 C.2.1 dX10_path_89 (lv_at hl 8 rfl) ?_
        refine lv_iload C.1 C.2.1 dX10_path_91 (lv_at hl 0 rfl) ?_
        obtain ⟨o16, hF⟩ := hF
        refine zd_icmp_lt C hd o16 98 dX10_path_93 (by decide) (fun c15 => ?_) (fun c15 => ?_)
        · have hF := hF.1 c15
          refine lv_iload C.1 C.2.1 dX10_path_98 (lv_at hl 8 rfl) ?_
          refine lv_iload C.1 C.2.1 dX10_path_100 (lv_at hl 1 rfl) ?_
          refine zd_icmp_ge C hd hr11 120 dX10_path_102 (by decide) (fun c17 => ?_) (fun c17 => ?_)
          · have hF := hF.1 c17
            refine lv_iload C.1 C.2.1 dX10_path_120 (lv_at hl 2 rfl) ?_
            refine lv_iload C.1 C.2.1 dX10_path_122 (lv_at hl 8 rfl) ?_
            refine lv_iload C.1 C.2.1 dX10_path_124 (lv_at hl 1 rfl) ?_
            refine zd_isub C dX10_path_126 ?_
            obtain ⟨o18, hF⟩ := hF
            refine zgoi (zrunS (As := [.int (zI (zAnd (X2 (i + 167) (g)) (zXor (X2 (i + 167) (b)) ((-1))))), .int (zI (d - (mBc (zAnd (X2 (i + 167) (b)) (zXor (X2 (i + 167) (g)) ((-1)))))))]) (rest := []) C hE hH hS hl.1 (c_X10_nthBit (l := l)  (zAnd (X2 (i + 167) (g)) (zXor (X2 (i + 167) (b)) ((-1)))) (zI_rg _) (d - (mBc (zAnd (X2 (i + 167) (b)) (zXor (X2 (i + 167) (g)) ((-1)))))) o18) k_RX10_393 ⟨Nat.le_of_ble_eq_true rfl, Nat.le_of_ble_eq_true rfl⟩ rfl (Nat.le_of_ble_eq_true rfl) dX10_path_127 ⟨Nat.zero_le _, Nat.zero_le _⟩) hS (fun rq Xq Yq Rq H locs hrq hq hH hS => ?_)
            obtain ⟨h91, h92⟩ := hq
            have h93 : Xq = X2 := congrArg (fun z => z.1) h92
            have h94 : Yq = Y3 := congrArg (fun z => z.2.1) h92
            have h95 : Rq = R4 := congrArg (fun z => z.2.2) h92
            rw [h93, h94, h95] at hH
            subst h91
            have hr19 := hrq
            have hF := hF hr19
            exact zd_iret C hr hlk hH hS hr19 (hF) dX10_path_130
          · have hF := hF.2 c17
            refine lv_iload C.1 C.2.1 dX10_path_105 (lv_at hl 3 rfl) ?_
            refine lv_iload C.1 C.2.1 dX10_path_107 (lv_at hl 1 rfl) ?_
            refine zd_iconst C dX10_path_109 ?_
            refine zd_isub C dX10_path_110 ?_
            refine lv_iload C.1 C.2.1 dX10_path_111 (lv_at hl 8 rfl) ?_
            refine zd_isub C dX10_path_113 ?_
            obtain ⟨o20, hF⟩ := hF
            refine zgoi (zrunS (As := [.int (zI (zAnd (X2 (i + 167) (b)) (zXor (X2 (i + 167) (g)) ((-1))))), .int (zI (((mBc (zAnd (X2 (i + 167) (b)) (zXor (X2 (i + 167) (g)) ((-1))))) - 1) - d))]) (rest := []) C hE hH hS hl.1 (c_X10_nthBit (l := l)  (zAnd (X2 (i + 167) (b)) (zXor (X2 (i + 167) (g)) ((-1)))) (zI_rg _) (((mBc (zAnd (X2 (i + 167) (b)) (zXor (X2 (i + 167) (g)) ((-1))))) - 1) - d) o20) k_RX10_393 ⟨Nat.le_of_ble_eq_true rfl, Nat.le_of_ble_eq_true rfl⟩ rfl (Nat.le_of_ble_eq_true rfl) dX10_path_114 ⟨Nat.zero_le _, Nat.zero_le _⟩) hS (fun rq Xq Yq Rq H locs hrq hq hH hS => ?_)
            obtain ⟨h91, h92⟩ := hq
            have h93 : Xq = X2 := congrArg (fun z => z.1) h92
            have h94 : Yq = Y3 := congrArg (fun z => z.2.1) h92
            have h95 : Rq = R4 := congrArg (fun z => z.2.2) h92
            rw [h93, h94, h95] at hH
            subst h91
            have hr21 := hrq
            have hF := hF hr21
            refine lv_goto (tgt := 130) C.1 C.2.1 dX10_path_117 (by decide) ?_
            exact zd_iret C hr hlk hH hS hr21 (hF) dX10_path_130
        · have hF := hF.2 c15
          refine zd_iconst C dX10_path_96 ?_
          exact zd_iret C hr hlk hH hS (by decide) (hF) dX10_path_97
    · have hF := hF.2 c13
      refine lv_iload C.1 C.2.1 dX10_path_81 (lv_at hl 0 rfl) ?_
      obtain ⟨o22, hF⟩ := hF
      exact zd_iret C hr hlk hH hS o22 (hF) dX10_path_83
  · have hF := hF.2 c6
    refine zd_iconst C dX10_path_10 ?_
    exact zd_iret C hr hlk hH hS (by decide) (hF) dX10_path_11
theorem v_X10_path {X Y : Nat → Int → Int} {R : Nat → Int → Option Nat} {i : Nat} {Z : Nat → Int → Int} {q : Nat} (a : Int) (ha : rI a) (b : Int) (hb : rI b) (g : Int) (hg : rI g) (d : Int) (hd : rI d) (hp : wcQ Z q X i) : F_X10_path i Z q X Y R a b g d := by
  unfold F_X10_path
  intro hX hY
  refine ⟨?_, ?_⟩
  · exact hp
  intro r5
  intro X2
  intro rX2
  intro Y3
  intro rY3
  intro R4
  intro h1
  obtain ⟨eR, er, hk, ht⟩ := h1
  refine ⟨?_, ?_⟩
  · intro c1
    have hd := ht c1
    have e := er.symm.trans c1
    rw [Bool.and_eq_true, Bool.and_eq_true, mIn_t, mIn_t] at e
    have hv := hd.1.1
    have vn := vZ_n hv
    have eN : hZ Z q 0 a 0 q 27 = 1 + qN Z q a := hZ_s.2.2.2.1
    have hP := vZ_p hv
    obtain ⟨bn, rfl⟩ := nat_of (show 0 ≤ b by omega)
    have eb : ((bn : Nat) : Int).toNat = bn := by omega
    have wb : ∀ X9, X9 = X2 → X9 (i + 167) bn = wyP (qP Z q a) bn := fun X9 hX => by rw [hX]; exact (hd.2.2.2 bn (by omega)).2.1
    obtain ⟨gn, rfl⟩ := nat_of (show 0 ≤ g by omega)
    have eg : ((gn : Nat) : Int).toNat = gn := by omega
    have wg : ∀ X9, X9 = X2 → X9 (i + 167) gn = wyP (qP Z q a) gn := fun X9 hX => by rw [hX]; exact (hd.2.2.2 gn (by omega)).2.1
    have wb := wb X2 rfl
    have wg := wg X2 rfl
    rw [wb, wg]
    rw [mBc_ones (and_sm wy_sm).1 (and_sm wy_sm).2, mBc_ones (and_sm wy_sm).1 (and_sm wy_sm).2]
    have o1 := mOnes_b (zAnd (wyP (qP Z q a) bn) (zXor (wyP (qP Z q a) gn) (-1)))
    have o2 := mOnes_b (zAnd (wyP (qP Z q a) gn) (zXor (wyP (qP Z q a) bn) (-1)))
    have b1 : pBk (qP Z q a) bn gn = mOnes (zAnd (wyP (qP Z q a) bn) (zXor (wyP (qP Z q a) gn) (-1))) := by unfold pBk; rw [eb, eg]
    have b2 : pBk (qP Z q a) gn bn = mOnes (zAnd (wyP (qP Z q a) gn) (zXor (wyP (qP Z q a) bn) (-1))) := by unfold pBk; rw [eb, eg]
    have E : rPath Z q a bn gn d = (if d = -1 then pBk (qP Z q a) bn gn + pBk (qP Z q a) gn bn else if mIn d 0 (pBk (qP Z q a) bn gn + pBk (qP Z q a) gn bn - 1) then (if d < pBk (qP Z q a) bn gn then aN (qP Z q a) bn d.toNat else aN (qP Z q a) gn (pBk (qP Z q a) bn gn + pBk (qP Z q a) gn bn - 1 - d).toNat) else -1) := by
      unfold rPath
      rw [e.1, mIn_t.mpr e.2.1, mIn_t.mpr e.2.2, eb, eg]
      rfl
    rw [b1, b2] at E
    rw [E]
    refine ⟨?_, ?_⟩
    · omega
    refine ⟨?_, ?_⟩
    · omega
    refine ⟨?_, ?_⟩
    · omega
    refine ⟨?_, ?_⟩
    · omega
    intro _
    intro _
    refine ⟨?_, ?_⟩
    · intro c2
      refine ⟨?_, ?_⟩
      · intro c3
        refine ⟨eR, ?_, hk⟩
        rw [if_neg c2, if_neg (show ¬ mIn d 0 _ = true by rw [mIn_t]; omega)]
      intro c4
      refine ⟨?_, ?_⟩
      · exact ⟨by omega, by omega⟩
      refine ⟨?_, ?_⟩
      · intro c5
        refine ⟨?_, ?_⟩
        · intro c6
          refine ⟨?_, ?_⟩
          · exact ⟨by omega, by omega⟩
          intro _
          refine ⟨eR, ?_, hk⟩
          rw [if_neg c2, if_pos (mIn_t.mpr (by omega)), if_neg (by omega)]
          have := pb_nb (P := qP Z q a) (n := (hZ Z q 0 a 0 q 27 - 1).toNat) (a := gn) (b := bn) (by omega) hP (by omega) (by omega) (k := mOnes (zAnd (wyP (qP Z q a) bn) (zXor (wyP (qP Z q a) gn) (-1))) + mOnes (zAnd (wyP (qP Z q a) gn) (zXor (wyP (qP Z q a) bn) (-1))) - 1 - d) (by omega) (by omega)
          rw [← this]
          congr 1
          omega
        intro c7
        refine ⟨?_, ?_⟩
        · exact ⟨by omega, by omega⟩
        intro _
        refine ⟨eR, ?_, hk⟩
        rw [if_neg c2, if_pos (mIn_t.mpr (by omega)), if_pos (by omega)]
        exact pb_nb (P := qP Z q a) (n := (hZ Z q 0 a 0 q 27 - 1).toNat) (a := bn) (b := gn) (by omega) hP (by omega) (by omega) (by omega) (by omega)
      intro c8
      refine ⟨eR, ?_, hk⟩
      rw [if_neg c2, if_neg (show ¬ mIn d 0 _ = true by rw [mIn_t]; omega)]
    intro c9
    refine ⟨?_, ?_⟩
    · exact ⟨by omega, by omega⟩
    refine ⟨eR, ?_, hk⟩
    rw [if_pos (Classical.not_not.mp c9)]
  intro c10
  refine ⟨eR, ?_, hk⟩
  have e := er.symm.trans c10
  unfold rPath
  rw [e]
  rfl
theorem c_X10_path {l : Launch} {D : va_G} {cy : Nat → ClassId} {bs N : Nat} {sa : Nat → Nat} {kd len : Nat → Nat} {X Y : Nat → Int → Int} {R : Nat → Int → Option Nat} {i : Nat} {Z : Nat → Int → Int} {q : Nat} (hC : zWC N kd len R i) (a : Int) (ha : rI a) (b : Int) (hb : rI b) (g : Int) (hg : rI g) (d : Int) (hd : rI d) (hp : wcQ Z q X i) : Met l yX10_path (.code yX10_path cX10_path 9 (some .int) :: zTB) (zRm 3 107) (zPc D cy bs sa N kd len X Y R [.ref (bs + (i)), .int (zI (a)), .int (zI (b)), .int (zI (g)), .int (zI (d))]) (zQi D cy bs N kd len (fun r st => (((st.2.2) = wdR Z q R i (a) (b) (g)) ∧ r = rPath Z q (a) (b) (g) (d) ∧ qK X (st.1) i))) 0 0 (zA bs) := w_X10_path hC a ha b hb g hg d hd (v_X10_path a ha b hb g hg d hd hp)
abbrev cX10_speed : ByteArray := prog_1_method_36_code
def yX10_speed : MethodName := ⟨RX10, "speed", "(III)I"⟩
theorem dX10_speed_0 : decode cX10_speed 0 = .ok (.iload_n 3, 1) := by decide +kernel
theorem dX10_speed_1 : decode cX10_speed 1 = .ok (.iconst 1, 1) := by decide +kernel
theorem dX10_speed_2 : decode cX10_speed 2 = .ok (.if_icmp .lt 19, 3) := by decide +kernel
theorem dX10_speed_5 : decode cX10_speed 5 = .ok (.iload_n 3, 1) := by decide +kernel
theorem dX10_speed_6 : decode cX10_speed 6 = .ok (.bipush 9, 2) := by decide +kernel
theorem dX10_speed_8 : decode cX10_speed 8 = .ok (.if_icmp .gt 13, 3) := by decide +kernel
theorem dX10_speed_11 : decode cX10_speed 11 = .ok (.aload_n 0, 1) := by decide +kernel
theorem dX10_speed_12 : decode cX10_speed 12 = .ok (.iload_n 1, 1) := by decide +kernel
theorem dX10_speed_13 : decode cX10_speed 13 = .ok (.iload_n 2, 1) := by decide +kernel
theorem dX10_speed_14 : decode cX10_speed 14 = .ok (.iload_n 2, 1) := by decide +kernel
theorem dX10_speed_15 : decode cX10_speed 15 = .ok (.invokevirtual 387, 3) := by decide +kernel
theorem dX10_speed_18 : decode cX10_speed 18 = .ok (.ifCond .ne 7, 3) := by decide +kernel
theorem dX10_speed_21 : decode cX10_speed 21 = .ok (.sipush (-999), 3) := by decide +kernel
theorem dX10_speed_24 : decode cX10_speed 24 = .ok (.ireturn, 1) := by decide +kernel
theorem dX10_speed_25 : decode cX10_speed 25 = .ok (.aload_n 0, 1) := by decide +kernel
theorem dX10_speed_26 : decode cX10_speed 26 = .ok (.getfield 34, 3) := by decide +kernel
theorem dX10_speed_29 : decode cX10_speed 29 = .ok (.iload_n 2, 1) := by decide +kernel
theorem dX10_speed_30 : decode cX10_speed 30 = .ok (.iload_n 3, 1) := by decide +kernel
theorem dX10_speed_31 : decode cX10_speed 31 = .ok (.invokevirtual 396, 3) := by decide +kernel
theorem dX10_speed_34 : decode cX10_speed 34 = .ok (.istore 4, 2) := by decide +kernel
theorem dX10_speed_36 : decode cX10_speed 36 = .ok (.iload 4, 2) := by decide +kernel
theorem dX10_speed_38 : decode cX10_speed 38 = .ok (.iconst (-1), 1) := by decide +kernel
theorem dX10_speed_39 : decode cX10_speed 39 = .ok (.if_icmp .ne 9, 3) := by decide +kernel
theorem dX10_speed_42 : decode cX10_speed 42 = .ok (.sipush (-999), 3) := by decide +kernel
theorem dX10_speed_45 : decode cX10_speed 45 = .ok (.goto 29, 3) := by decide +kernel
theorem dX10_speed_48 : decode cX10_speed 48 = .ok (.aload_n 0, 1) := by decide +kernel
theorem dX10_speed_49 : decode cX10_speed 49 = .ok (.getfield 34, 3) := by decide +kernel
theorem dX10_speed_52 : decode cX10_speed 52 = .ok (.getfield 282, 3) := by decide +kernel
theorem dX10_speed_55 : decode cX10_speed 55 = .ok (.getfield 160, 3) := by decide +kernel
theorem dX10_speed_58 : decode cX10_speed 58 = .ok (.iload_n 2, 1) := by decide +kernel
theorem dX10_speed_59 : decode cX10_speed 59 = .ok (.iaload, 1) := by decide +kernel
theorem dX10_speed_60 : decode cX10_speed 60 = .ok (.aload_n 0, 1) := by decide +kernel
theorem dX10_speed_61 : decode cX10_speed 61 = .ok (.getfield 34, 3) := by decide +kernel
theorem dX10_speed_64 : decode cX10_speed 64 = .ok (.getfield 282, 3) := by decide +kernel
theorem dX10_speed_67 : decode cX10_speed 67 = .ok (.getfield 160, 3) := by decide +kernel
theorem dX10_speed_70 : decode cX10_speed 70 = .ok (.iload 4, 2) := by decide +kernel
theorem dX10_speed_72 : decode cX10_speed 72 = .ok (.iaload, 1) := by decide +kernel
theorem dX10_speed_73 : decode cX10_speed 73 = .ok (.isub, 1) := by decide +kernel
theorem dX10_speed_74 : decode cX10_speed 74 = .ok (.ireturn, 1) := by decide +kernel
theorem q_1199 : Cond.methodLink RX10 396 yX1_ahead ∈ zTB := zmem 1199 (by decide +kernel) rfl
theorem k_RX10_396 : zLv RX10 396 RX1 yX1_ahead cX1_ahead 5 (some .int) 2 := ⟨⟨q_1199, q_908, q_909, q_135, q_910⟩, rfl, ⟨by decide, by decide⟩, by decide +kernel⟩
def F_X10_speed (i : Nat) (Z : Nat → Int → Int) (q : Nat) (X Y : Nat → Int → Int) (R : Nat → Int → Option Nat) (a : Int) (b : Int) (g : Int) : Prop := (∀ i j, rI (X i j)) → (∀ i j, rL (Y i j)) → ((g < 1) → (((R) = if 1 ≤ g ∧ g ≤ 9 then wdR Z q R i (a) (b) (b) else R) ∧ (-999) = rSpeed Z q (a) (b) (g) ∧ qK X (X) i)) ∧ ((¬ (g < 1)) → (((9 < g) → (((R) = if 1 ≤ g ∧ g ≤ 9 then wdR Z q R i (a) (b) (b) else R) ∧ (-999) = rSpeed Z q (a) (b) (g) ∧ qK X (X) i)) ∧ ((¬ (9 < g)) → ((wcQ Z q X i) ∧ (∀ r7 : Bool, ∀ X4 : Nat → Int → Int, (∀ i j, rI (X4 i j)) → ∀ Y5 : Nat → Int → Int, (∀ i j, rL (Y5 i j)) → ∀ R6 : Nat → Int → Option Nat, (((R6) = wdR Z q R i (a) (b) (b)) ∧ r7 = (mIs q Z 1 (a) && (mIn (b) 0 (qN Z q (a)) && mIn (b) 0 (qN Z q (a)))) ∧ qK X (X4) i ∧ (r7 = true → dR (hZ Z q 0 (a) 0) q (X4) (R6) (i + 157))) → (((r7 = true) → ((dR (hZ Z q 0 a 0) q X4 R6 (i + 157) ∧ 0 ≤ (b) ∧ (b) < (hZ Z q 0 a 0) q 27) ∧ (rI (aN (rP (hZ Z q 0 a 0) q) (b).toNat (g).toNat) → (((¬ (aN (rP (hZ Z q 0 a 0) q) (b).toNat (g).toNat) = (-1)) → ((0 ≤ b ∧ b < 15) ∧ ((0 ≤ (aN (rP (hZ Z q 0 a 0) q) (b).toNat (g).toNat) ∧ (aN (rP (hZ Z q 0 a 0) q) (b).toNat (g).toNat) < 15) ∧ (((R6) = if 1 ≤ g ∧ g ≤ 9 then wdR Z q R i (a) (b) (b) else R) ∧ (zW ((X4 (cb R6 (i + 157) + 2) (b)) - (X4 (cb R6 (i + 157) + 2) (aN (rP (hZ Z q 0 a 0) q) (b).toNat (g).toNat)))) = rSpeed Z q (a) (b) (g) ∧ qK X (X4) i)))) ∧ ((¬ (¬ (aN (rP (hZ Z q 0 a 0) q) (b).toNat (g).toNat) = (-1))) → (((R6) = if 1 ≤ g ∧ g ≤ 9 then wdR Z q R i (a) (b) (b) else R) ∧ (-999) = rSpeed Z q (a) (b) (g) ∧ qK X (X4) i)))))) ∧ ((r7 = false) → (((R6) = if 1 ≤ g ∧ g ≤ 9 then wdR Z q R i (a) (b) (b) else R) ∧ (-999) = rSpeed Z q (a) (b) (g) ∧ qK X (X4) i))))))))
set_option maxHeartbeats 4000000 in
set_option maxRecDepth 100000 in
theorem w_X10_speed {l : Launch} {D : va_G} {cy : Nat → ClassId} {bs N : Nat} {sa : Nat → Nat} {kd len : Nat → Nat} {X Y : Nat → Int → Int} {R : Nat → Int → Option Nat} {i : Nat} {Z : Nat → Int → Int} {q : Nat} (hC : zWC N kd len R i) (a : Int) (ha : rI a) (b : Int) (hb : rI b) (g : Int) (hg : rI g) (hF : F_X10_speed i Z q X Y R a b g) : Met l yX10_speed (.code yX10_speed cX10_speed 5 (some .int) :: zTB) (zRm 3 107) (zPc D cy bs sa N kd len X Y R [.ref (bs + (i)), .int (zI (a)), .int (zI (b)), .int (zI (g))]) (zQi D cy bs N kd len (fun r st => (((st.2.2) = if 1 ≤ g ∧ g ≤ 9 then wdR Z q R i (a) (b) (b) else R) ∧ r = rSpeed Z q (a) (b) (g) ∧ qK X (st.1) i))) 0 0 (zA bs) := by
  refine zstart (by decide) (Nat.le_of_ble_eq_true rfl) ?_
  intro p e s m args below meth c ls C hE hH hr hlk hnm hl hargs
  have hF := hF hH.2.2.1 hH.2.2.2
  have hS : va_S (zA bs) s.heap s.heap [] := va_S.rf
  have hl : lv_has ls 5 [(0, .ref (bs + (i))), (1, .int (zI (a))), (2, .int (zI (b))), (3, .int (zI (g)))] := hl
  refine lv_iload_n C.1 C.2.1 dX10_speed_0 rfl (lv_at hl 3 rfl) ?_
  refine zd_iconst C dX10_speed_1 ?_
  refine zd_icmp_lt C hg (by decide) 21 dX10_speed_2 (by decide) (fun c1 => ?_) (fun c1 => ?_)
  · have hF := hF.1 c1
    refine zd_sipush C (by decide) dX10_speed_21 ?_
    exact zd_iret C hr hlk hH hS (by decide) (hF) dX10_speed_24
  · have hF := hF.2 c1
    refine lv_iload_n C.1 C.2.1 dX10_speed_5 rfl (lv_at hl 3 rfl) ?_
    refine zd_bipush C (by decide) dX10_speed_6 ?_
    refine zd_icmp_gt C hg (by decide) 21 dX10_speed_8 (by decide) (fun c2 => ?_) (fun c2 => ?_)
    · have hF := hF.1 c2
      refine zd_sipush C (by decide) dX10_speed_21 ?_
      exact zd_iret C hr hlk hH hS (by decide) (hF) dX10_speed_24
    · have hF := hF.2 c2
      refine lv_aload_n C.1 C.2.1 dX10_speed_11 rfl (lv_at hl 0 rfl) ?_
      refine lv_iload_n C.1 C.2.1 dX10_speed_12 rfl (lv_at hl 1 rfl) ?_
      refine lv_iload_n C.1 C.2.1 dX10_speed_13 rfl (lv_at hl 2 rfl) ?_
      refine lv_iload_n C.1 C.2.1 dX10_speed_14 rfl (lv_at hl 2 rfl) ?_
      obtain ⟨o3, hF⟩ := hF
      refine zgoi (zrunV (As := [.int (zI (a)), .int (zI (b)), .int (zI (b))]) (rest := []) C hE hH hS hl.1 (c_X10_drawWays (l := l) hC (a) ha (b) hb (b) hb o3) k_RX10_387 ⟨Nat.le_of_ble_eq_true rfl, Nat.le_of_ble_eq_true rfl⟩ (zW_n hC) (zW_k hC) rfl rfl rfl (Nat.le_of_ble_eq_true rfl) dX10_speed_15 ⟨Nat.zero_le _, Nat.zero_le _⟩) hS (fun rq X4 Y5 R6 H locs hrq hq hH hS => ?_)
      obtain ⟨r7, h91, hq⟩ := hq
      subst h91
      have hF := hF r7 X4 hH.2.2.1 Y5 hH.2.2.2 R6 hq
      have hC := zWC_dw hC hq.1
      refine zd_ifB_ne C 25 dX10_speed_18 (by decide) (fun c8 => ?_) (fun c8 => ?_)
      · have hF := hF.1 c8
        refine lv_aload_n C.1 C.2.1 dX10_speed_25 rfl (lv_at hl 0 rfl) ?_
        refine zg10_4 C hH (zW_n hC) (zW_k hC) q_573 (zW_lw hC).1 dX10_speed_26 ?_
        refine lv_iload_n C.1 C.2.1 dX10_speed_29 rfl (lv_at hl 2 rfl) ?_
        refine lv_iload_n C.1 C.2.1 dX10_speed_30 rfl (lv_at hl 3 rfl) ?_
        obtain ⟨o9, hF⟩ := hF
        refine zgoi (zrunV (As := [.int (zI (b)), .int (zI (g))]) (rest := []) C hE hH hS hl.1 (c_X1_ahead (l := l) (zW_lw hC).2.2.2.1.1 (b) hb (g) hg o9) k_RX10_396 ⟨Nat.le_of_ble_eq_true rfl, Nat.le_of_ble_eq_true rfl⟩ (zChart_n0 (zW_lw hC).2.2.2.1.1) (zChart_k0 (zW_lw hC).2.2.2.1.1) rfl rfl rfl (Nat.le_of_ble_eq_true rfl) dX10_speed_31 ⟨Nat.zero_le _, Nat.zero_le _⟩) hS (fun rq Xq Yq Rq H locs hrq hq hH hS => ?_)
        obtain ⟨h91, h92⟩ := hq
        have h93 : Xq = X4 := congrArg (fun z => z.1) h92
        have h94 : Yq = Y5 := congrArg (fun z => z.2.1) h92
        have h95 : Rq = R6 := congrArg (fun z => z.2.2) h92
        rw [h93, h94, h95] at hH
        subst h91
        have hr10 := hrq
        have hF := hF hr10
        refine lv_istore (lv' := [(4, .int (zI (aN (rP (hZ Z q 0 a 0) q) (b).toNat (g).toNat))), (0, .ref (bs + (i))), (1, .int (zI (a))), (2, .int (zI (b))), (3, .int (zI (g)))]) C.1 C.2.1 dX10_speed_34 hl (by decide) rfl (fun ls hl => ?_)
        refine lv_iload C.1 C.2.1 dX10_speed_36 (lv_at hl 0 rfl) ?_
        refine zd_iconst C dX10_speed_38 ?_
        refine zd_icmp_ne C hr10 (by decide) 48 dX10_speed_39 (by decide) (fun c11 => ?_) (fun c11 => ?_)
        · have hF := hF.1 c11
          refine lv_aload_n C.1 C.2.1 dX10_speed_48 rfl (lv_at hl 1 rfl) ?_
          refine zg10_4 C hH (zW_n hC) (zW_k hC) q_573 (zW_lw hC).1 dX10_speed_49 ?_
          refine zg1_1 C hH (zChart_n0 (zW_lw hC).2.2.2.1.1) (zChart_k0 (zW_lw hC).2.2.2.1.1) q_395 (zChart_blk (zW_lw hC).2.2.2.1.1).1 dX10_speed_52 ?_
          refine zg0_2 C hH (zBlocks_n0 (zChart_blk (zW_lw hC).2.2.2.1.1).2) (zBlocks_k0 (zChart_blk (zW_lw hC).2.2.2.1.1).2) q_233 (zBlocks_r2 (zChart_blk (zW_lw hC).2.2.2.1.1).2) dX10_speed_55 ?_
          refine lv_iload_n C.1 C.2.1 dX10_speed_58 rfl (lv_at hl 3 rfl) ?_
          obtain ⟨o12, hF⟩ := hF
          refine zd_iald C hH (zBlocks_n2 (zChart_blk (zW_lw hC).2.2.2.1.1).2) (zBlocks_k2 (zChart_blk (zW_lw hC).2.2.2.1.1).2) o12.1 (by rw [zBlocks_l2 (zChart_blk (zW_lw hC).2.2.2.1.1).2]; exact o12.2) (by rw [zBlocks_l2 (zChart_blk (zW_lw hC).2.2.2.1.1).2]; decide) dX10_speed_59 ?_
          refine lv_aload_n C.1 C.2.1 dX10_speed_60 rfl (lv_at hl 1 rfl) ?_
          refine zg10_4 C hH (zW_n hC) (zW_k hC) q_573 (zW_lw hC).1 dX10_speed_61 ?_
          refine zg1_1 C hH (zChart_n0 (zW_lw hC).2.2.2.1.1) (zChart_k0 (zW_lw hC).2.2.2.1.1) q_395 (zChart_blk (zW_lw hC).2.2.2.1.1).1 dX10_speed_64 ?_
          refine zg0_2 C hH (zBlocks_n0 (zChart_blk (zW_lw hC).2.2.2.1.1).2) (zBlocks_k0 (zChart_blk (zW_lw hC).2.2.2.1.1).2) q_233 (zBlocks_r2 (zChart_blk (zW_lw hC).2.2.2.1.1).2) dX10_speed_67 ?_
          refine lv_iload C.1 C.2.1 dX10_speed_70 (lv_at hl 0 rfl) ?_
          obtain ⟨o13, hF⟩ := hF
          refine zd_iald C hH (zBlocks_n2 (zChart_blk (zW_lw hC).2.2.2.1.1).2) (zBlocks_k2 (zChart_blk (zW_lw hC).2.2.2.1.1).2) o13.1 (by rw [zBlocks_l2 (zChart_blk (zW_lw hC).2.2.2.1.1).2]; exact o13.2) (by rw [zBlocks_l2 (zChart_blk (zW_lw hC).2.2.2.1.1).2]; decide) dX10_speed_72 ?_
          refine zd_isub C dX10_speed_73 ?_
          rw [show zI ((X4 (cb R6 (i + 157) + 2) (b)) - (X4 (cb R6 (i + 157) + 2) (aN (rP (hZ Z q 0 a 0) q) (b).toNat (g).toNat))) = zI (zW ((X4 (cb R6 (i + 157) + 2) (b)) - (X4 (cb R6 (i + 157) + 2) (aN (rP (hZ Z q 0 a 0) q) (b).toNat (g).toNat)))) from (zI_zW _).symm]
          exact zd_iret C hr hlk hH hS (zW_rg _) (hF) dX10_speed_74
        · have hF := hF.2 c11
          refine zd_sipush C (by decide) dX10_speed_42 ?_
          refine lv_goto (tgt := 74) C.1 C.2.1 dX10_speed_45 (by decide) ?_
          exact zd_iret C hr hlk hH hS (by decide) (hF) dX10_speed_74
      · have hF := hF.2 c8
        refine zd_sipush C (by decide) dX10_speed_21 ?_
        exact zd_iret C hr hlk hH hS (by decide) (hF) dX10_speed_24
theorem v_X10_speed {X Y : Nat → Int → Int} {R : Nat → Int → Option Nat} {i : Nat} {Z : Nat → Int → Int} {q : Nat} (a : Int) (ha : rI a) (b : Int) (hb : rI b) (g : Int) (hg : rI g) (hp : wcQ Z q X i) : F_X10_speed i Z q X Y R a b g := by
  unfold F_X10_speed
  intro hX hY
  refine ⟨?_, ?_⟩
  · intro c1
    exact ⟨by rw [if_neg (by omega)], by unfold rSpeed; rw [mIn_f.mpr (show ¬ (1 ≤ g ∧ g ≤ 9) by omega)]; rfl, ⟨fun _ _ => rfl, hp.2.2⟩⟩
  intro c2
  refine ⟨?_, ?_⟩
  · intro c3
    exact ⟨by rw [if_neg (by omega)], by unfold rSpeed; rw [mIn_f.mpr (show ¬ (1 ≤ g ∧ g ≤ 9) by omega)]; rfl, ⟨fun _ _ => rfl, hp.2.2⟩⟩
  intro c4
  refine ⟨?_, ?_⟩
  · exact hp
  intro r7
  intro X4
  intro rX4
  intro Y5
  intro rY5
  intro R6
  intro h1
  obtain ⟨eR, er, hk, ht⟩ := h1
  have eR9 : R6 = if 1 ≤ g ∧ g ≤ 9 then wdR Z q R i a b b else R := by rw [if_pos ⟨by omega, by omega⟩]; exact eR
  refine ⟨?_, ?_⟩
  · intro c5
    have hd := ht c5
    have e := er.symm.trans c5
    rw [Bool.and_eq_true, Bool.and_eq_true, mIn_t] at e
    have hv := hd.1.1
    have vn := vZ_n hv
    have eN : hZ Z q 0 a 0 q 27 = 1 + qN Z q a := hZ_s.2.2.2.1
    have hP := vZ_p hv
    obtain ⟨bn, rfl⟩ := nat_of (show 0 ≤ b by omega)
    have eb : ((bn : Nat) : Int).toNat = bn := by omega
    rw [eb]
    have ab : -1 ≤ aN (rP (hZ Z q 0 a 0) q) bn g.toNat ∧ aN (rP (hZ Z q 0 a 0) q) bn g.toNat ≤ bn := aN_b hP (by omega) g.toNat
    have E : rSpeed Z q a bn g = (if aN (qP Z q a) bn g.toNat = -1 then -999 else mTim (hZ Z q 0 a 0) q bn - mTim (hZ Z q 0 a 0) q (aN (qP Z q a) bn g.toNat)) := by
      unfold rSpeed
      rw [mIn_t.mpr (show 1 ≤ g ∧ g ≤ 9 by omega), e.1, mIn_t.mpr e.2.1, eb]
      rfl
    have tb : ∀ z, 0 ≤ z → z < hZ Z q 0 a 0 q 27 → X4 (cb R6 (i + 157) + 2) z = mTim (hZ Z q 0 a 0) q z ∧ 0 ≤ mTim (hZ Z q 0 a 0) q z ∧ mTim (hZ Z q 0 a 0) q z ≤ 99 := fun z z0 z1 => by
      have hb := hd.2.2.1.1
      unfold mTim
      by_cases c : z = 0
      · rw [if_pos c, c]
        exact ⟨hb.2.1, by decide, by decide⟩
      · rw [if_neg c]
        exact ⟨(hb.2.2 z (by omega) z1).2.1, hv.2.2.1 z (by omega) (by omega)⟩
    refine ⟨?_, ?_⟩
    · exact ⟨hd, by omega, by omega⟩
    intro _
    refine ⟨?_, ?_⟩
    · intro c6
      refine ⟨?_, ?_⟩
      · omega
      refine ⟨?_, ?_⟩
      · omega
      have t1 := tb bn (by omega) (by omega)
      have t2 := tb (aN (rP (hZ Z q 0 a 0) q) bn g.toNat) (by omega) (by omega)
      refine ⟨eR9, ?_, hk⟩
      rw [E, if_neg c6, t1.1, t2.1]
      exact zI_toInt ⟨by omega, by omega⟩
    intro c7
    refine ⟨eR9, ?_, hk⟩
    rw [E, if_pos (Classical.not_not.mp c7)]
  intro c8
  refine ⟨eR9, ?_, hk⟩
  have e := er.symm.trans c8
  unfold rSpeed
  have e1 : (mIn g 1 9 && (mIs q Z 1 a && mIn b 0 (qN Z q a))) = false := by
    cases c : mIs q Z 1 a
    · rw [Bool.false_and, Bool.and_false]
    · cases c2 : mIn b 0 (qN Z q a)
      · rw [Bool.and_false, Bool.and_false]
      · rw [c, c2] at e
        cases e
  rw [e1]
  rfl
theorem c_X10_speed {l : Launch} {D : va_G} {cy : Nat → ClassId} {bs N : Nat} {sa : Nat → Nat} {kd len : Nat → Nat} {X Y : Nat → Int → Int} {R : Nat → Int → Option Nat} {i : Nat} {Z : Nat → Int → Int} {q : Nat} (hC : zWC N kd len R i) (a : Int) (ha : rI a) (b : Int) (hb : rI b) (g : Int) (hg : rI g) (hp : wcQ Z q X i) : Met l yX10_speed (.code yX10_speed cX10_speed 5 (some .int) :: zTB) (zRm 3 107) (zPc D cy bs sa N kd len X Y R [.ref (bs + (i)), .int (zI (a)), .int (zI (b)), .int (zI (g))]) (zQi D cy bs N kd len (fun r st => (((st.2.2) = if 1 ≤ g ∧ g ≤ 9 then wdR Z q R i (a) (b) (b) else R) ∧ r = rSpeed Z q (a) (b) (g) ∧ qK X (st.1) i))) 0 0 (zA bs) := w_X10_speed hC a ha b hb g hg (v_X10_speed a ha b hb g hg hp)
