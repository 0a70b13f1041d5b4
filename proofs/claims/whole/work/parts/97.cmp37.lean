/-! FILL -/
theorem rwN_24 {d : Int} {P : Prop} (h : ((2 : Int) ≤ 4 ∧ (4 : Int) < 5) ∧ 0 ≤ d ∧ d < 2 ∧ P) : rwN ((4 - 2) * 2 + d) = 24 := by
  unfold rwN
  rw [if_neg (by omega), if_neg (by omega)]
/-- what is laid out stays laid out -/
def wcK (R R1 : Nat → Int → Option Nat) (i : Nat) : Prop := (∀ (N : Nat) (kd len : Nat → Nat), zWC N kd len R i → zWC N kd len R1 i) ∧ ∀ z, (z < i ∨ i + 261 < z) → R1 z = R z
theorem wcK.rf {R : Nat → Int → Option Nat} {i : Nat} : wcK R R i := ⟨fun _ _ _ h => h, fun _ _ => rfl⟩
theorem wcK.tr {R R1 R2 : Nat → Int → Option Nat} {i : Nat} (a : wcK R R1 i) (b : wcK R1 R2 i) : wcK R R2 i := ⟨fun N kd len h => b.1 N kd len (a.1 N kd len h), fun z hz => (b.2 z hz).trans (a.2 z hz)⟩
theorem wgR_o {Z : Nat → Int → Int} {q : Nat} {R : Nat → Int → Option Nat} {i : Nat} {a b : Int} {z : Nat} (hz : z < i ∨ i + 261 < z) : wgR Z q R i a b z = R z := by
  unfold wgR
  split
  · rw [zU_o (by omega), zU_o (by omega)]
  · rfl
theorem wcK_wg {Z : Nat → Int → Int} {q : Nat} {R R1 : Nat → Int → Option Nat} {i : Nat} {a b : Int} (e : R1 = wgR Z q R i a b) : wcK R R1 i := ⟨fun _ _ _ h => zWC_wg h e, fun z hz => by rw [e]; exact wgR_o hz⟩
section ZV
variable {N : Nat} {kd len : Nat → Nat} {R R1 : Nat → Int → Option Nat} {i : Nat}
theorem zChart_V (h : zChart N kd len R i) (e : ∀ z, i ≤ z → z ≤ i + 46 → R1 z = R z) (en : R1 (cn R i) = R (cn R i)) (eb : R1 (cb R i) = R (cb R i)) : zChart N kd len R1 i := by
  have e0 := e i (by omega) (by omega)
  have hcn : cn R1 i = cn R i := by unfold cn; rw [e0]
  have hcb : cb R1 i = cb R i := by unfold cb; rw [e0]
  have hl : ∀ z : Int, 0 ≤ z → z < 15 → R1 (i + 14) z = some (i + 17 + 2 * z.toNat) ∧ zLedger N kd len R1 (i + 17 + 2 * z.toNat) := fun z h0 h1 => ⟨by rw [e (i + 14) (by omega) (by omega)]; exact (zChart_lg h h0 h1).1, zLedger_U (zChart_lg h h0 h1).2 (e _ (by omega) (by omega))⟩
  have hn' : R1 i 0 = some (cn R1 i) ∧ zNet N kd len R1 (cn R1 i) := by rw [hcn, e0]; exact ⟨(zChart_net h).1, zNet_U (zChart_net h).2 en⟩
  have hk' : R1 i 1 = some (cb R1 i) ∧ zBlocks N kd len R1 (cb R1 i) := by rw [hcb, e0]; exact ⟨(zChart_blk h).1, zBlocks_U (zChart_blk h).2 eb⟩
  refine ⟨h.1, h.2.1, zChart_k9 h, zChart_l9 h, (congrFun e0 _).trans (zChart_r9 h), zChart_k10 h, zChart_l10 h, (congrFun e0 _).trans (zChart_r10 h), zChart_k11 h, zChart_l11 h, (congrFun e0 _).trans (zChart_r11 h), zChart_k12 h, zChart_l12 h, (congrFun e0 _).trans (zChart_r12 h), zChart_k13 h, zChart_l13 h, (congrFun e0 _).trans (zChart_r13 h), zChart_k15 h, zChart_l15 h, (congrFun e0 _).trans (zChart_r15 h), zChart_k16 h, zChart_l16 h, (congrFun e0 _).trans (zChart_r16 h), zChart_k14 h, zChart_l14 h, (congrFun e0 _).trans (zChart_r14 h), hl, hn', hk'⟩
theorem zRdr_V (h : zRdr N kd len R i) (e : ∀ z, i ≤ z → z ≤ i + 17 → R1 z = R z) : zRdr N kd len R1 i := by
  obtain ⟨r1, r2, r3, r4, r5, r6, r7, r8⟩ := h
  have e0 := e i (by omega) (by omega)
  have t9 : tp9 R1 i = tp9 R i := by unfold tp9; rw [e0]
  refine ⟨r1, r2, ?_, ?_, ?_, ?_, fun z z0 z1 => ?_, ?_⟩
  · rw [e0]
    exact ⟨r3.1, zNet_U r3.2 (e _ (by omega) (by omega))⟩
  · rw [e0]
    exact ⟨r4.1, zBlocks_U r4.2 (e _ (by omega) (by omega))⟩
  · rw [e0]
    exact r5
  · rw [e0]
    exact r6
  · rw [e (i + 9) (by omega) (by omega)]
    exact ⟨(r7 z z0 z1).1, zRows_U (r7 z z0 z1).2 (e _ (by omega) (by omega))⟩
  · rw [t9, e0]
    exact r8
theorem zFill_V (h : zFill N kd len R i) (e : ∀ z, i ≤ z → z ≤ i + 13 → R1 z = R z) (ep : R1 (pl9 R i) = R (pl9 R i)) : zFill N kd len R1 i := by
  obtain ⟨f1, f2, f3, f4, f5, f6, f7, f8⟩ := h
  have e0 := e i (by omega) (by omega)
  have p9 : pl9 R1 i = pl9 R i := by unfold pl9; rw [e0]
  refine ⟨f1, f2, ?_, ?_, ?_, fun z z0 z1 => ?_, ?_, ?_⟩
  · rw [e0]
    exact f3
  · rw [e0]
    exact f4
  · rw [e0]
    exact f5
  · rw [e (i + 3) (by omega) (by omega)]
    exact ⟨(f6 z z0 z1).1, zLedger_U (f6 z z0 z1).2 (e _ (by omega) (by omega))⟩
  · rw [p9, e0]
    exact f7
  · rw [p9]
    exact zRows_U f8 ep
/-- one object's references change: the reader's or the filling's -/
theorem zWC_at {w : Nat} (h : zWC N kd len R i) (hw : (w = i + 246 ∧ kd w = 3) ∨ (w = i + 139 ∧ kd w = 7)) (e : ∀ z, z ≠ w → R1 z = R z) (hr : zRdr N kd len R1 (i + 139)) (hf : zFill N kd len R1 (i + 246)) : zWC N kd len R1 i := by
  obtain ⟨h1, h2, h3, h4, h5, h6, h7, h8, h9⟩ := h
  have hl : zLaws N kd len R1 (i + 157) := by
    obtain ⟨l1, l2, l3, l4, l5, l6, l7, l8, l9⟩ := h7.2.2.2
    have lc : zCourse N kd len R1 (i + 157) := by
      obtain ⟨c1, c2, c3, c4, c5, c6, c7⟩ := l1
      have k1 := (zChart_net c1).2.2.1
      have k2 := (zChart_blk c1).2.2.1
      refine ⟨zChart_V c1 (fun z z0 z1 => e z (by omega)) (e _ (fun g => by rw [g] at k1; omega)) (e _ (fun g => by rw [g] at k2; omega)), c2, c3, c4, c5, ?_, ?_⟩
      · rw [e (i + 157 + 47) (by omega)]
        exact c6
      · rw [e (i + 157 + 47) (by omega)]
        exact c7
    refine ⟨lc, l2, l3, ?_, ?_, ?_, ?_, ?_, fun z z0 z1 => ?_⟩
    · rw [e (i + 157 + 49) (by omega)]
      exact l4
    · rw [e (i + 157 + 49) (by omega)]
      exact l5
    · rw [e (i + 157 + 49) (by omega)]
      exact l6
    · rw [e (i + 157 + 49) (by omega)]
      exact l7
    · rw [e (i + 157 + 49) (by omega)]
      exact l8
    · rw [e (i + 157 + 50) (by omega)]
      exact l9 z z0 z1
  refine ⟨h1, ?_, ?_, fun z z0 z1 => ?_, ?_, ⟨?_, hr⟩, ⟨?_, ?_, ?_, hl⟩, ⟨?_, hf⟩, ?_, zLedger_U h9.2 (e _ (by omega))⟩
  · rw [e i (by omega)]
    exact ⟨h2.1, zTd_U h2.2 (fun z _ _ => e z (by omega))⟩
  · rw [e i (by omega)]
    exact h3
  · rw [e (i + 35) (by omega)]
    exact ⟨(h4 z z0 z1).1, zTd_U (h4 z z0 z1).2 (fun y _ _ => e y (by omega))⟩
  · rw [e i (by omega)]
    exact h5
  · rw [e i (by omega)]
    exact h6.1
  · rw [e i (by omega)]
    exact h7.1
  · rw [e i (by omega)]
    exact h7.2.1
  · rw [e i (by omega)]
    exact h7.2.2.1
  · rw [e i (by omega)]
    exact h8.1
  · rw [e i (by omega)]
    exact h9.1
theorem zWC_putP (h : zWC N kd len R i) {d : Int} {P : Prop} (hc : ((2 : Int) ≤ 4 ∧ (4 : Int) < 5) ∧ 0 ≤ d ∧ d < 2 ∧ P) (e : R1 = zU R (i + 246) 0 (some (i + 23 + 2 * ((4 - 2) * 2 + d : Int).toNat))) : zWC N kd len R1 i := by
  have hz := (zTd_rw (zW_td h).2 (rix_0 hc) (rix_1 hc)).1.2
  rw [rwN_24 hc] at hz
  exact zWC_at h (Or.inl ⟨rfl, zF_k (zW_fi h).2⟩) (fun z hz => by rw [e, zU_o hz]) (zRdr_V (zW_rd h).2 (fun z _ _ => by rw [e, zU_o (by omega)])) (zF_put (zW_fi h).2 e hz).1
end ZV
theorem fsU_g {acc : Int} {pf pt pm pe pf' pt' pm' pe' : Nat → Int} {cnt : Int} {row : Nat → Nat} {L L' : Int → Int} (hp : ∀ k : Nat, (k : Int) < cnt → pf k = pf' k ∧ pt k = pt' k ∧ pm k = pm' k ∧ pe k = pe' k) (hL : ∀ y : Int, 0 ≤ y → y < acc → L y = L' y) : ∀ q, (fsU acc pf pt pm pe cnt row L q = none ∧ fsU acc pf' pt' pm' pe' cnt row L' q = none) ∨ ∃ h s M M', fsU acc pf pt pm pe cnt row L q = some (h, s, M) ∧ fsU acc pf' pt' pm' pe' cnt row L' q = some (h, s, M') ∧ ∀ y : Int, 0 ≤ y → y < acc → M y = M' y
  | 0 => Or.inr ⟨0, 0, L, L', rfl, rfl, hL⟩
  | q + 1 => by
    rcases fsU_g (row := row) hp hL q with ⟨a, b⟩ | ⟨h, s, M, M', a, b, e⟩
    · exact Or.inl ⟨fsU_no a 1, fsU_no b 1⟩
    · rw [fsU_s a, fsU_s b]
      by_cases g : (row q : Int) < cnt
      · obtain ⟨e1, e2, e3, e4⟩ := hp (row q) g
        rw [← e1, ← e2, ← e3, ← e4]
        by_cases g2 : 0 ≤ pf (row q) ∧ pf (row q) ≤ acc - 1
        · rw [← e _ g2.1 (by omega)]
          split
          · rename_i g3
            simp only [Bool.and_eq_true, decide_eq_true_eq, mIn_t] at g3
            have g4 := g3.2.1.2
            refine Or.inr ⟨_, _, _, _, rfl, rfl, fun y y0 y1 => ?_⟩
            unfold upI
            rw [e y y0 y1, e _ g4.1 (by omega)]
          · exact Or.inl ⟨rfl, rfl⟩
        · rw [mIn_f.mpr g2, Bool.false_and, Bool.false_and, Bool.and_false]
          exact Or.inl ⟨if_neg (by decide), by rw [Bool.false_and, Bool.and_false]; exact if_neg (by decide)⟩
      · rw [decide_eq_false g, Bool.false_and, Bool.false_and]
        exact Or.inl ⟨if_neg (by decide), by rw [Bool.false_and]; exact if_neg (by decide)⟩
theorem fsV_g {acc : Int} {pf pt pm pe pf' pt' pm' pe' : Nat → Int} {cnt : Int} {row : Nat → Nat} {L L' : Int → Int} (hp : ∀ k : Nat, (k : Int) < cnt → pf k = pf' k ∧ pt k = pt' k ∧ pm k = pm' k ∧ pe k = pe' k) (hL : ∀ y : Int, 0 ≤ y → y < acc → L y = L' y) (q : Nat) : fsV acc pf pt pm pe cnt row L q = fsV acc pf' pt' pm' pe' cnt row L' q := by
  rcases fsU_g (row := row) hp hL q with ⟨a, b⟩ | ⟨h, s, M, M', a, b, e⟩
  · rw [fsV_n a, fsV_n b]
  · rw [fsV_e a, fsV_e b]
def fbD (fv : Nat → Nat → Int) (n M : Nat) (S : Int × Nat × Nat) : Prop := (S.1 = -1 ∧ n = 0 ∧ M = 0) ∨ (S.1 = fv S.2.2 S.2.1 ∧ (S.2.1 < n ∨ (S.2.1 = n ∧ S.2.2 < M)) ∧ S.2.2 < 6 ^ S.2.1 ∧ ∀ t' m', m' < 6 ^ t' → (t' < n ∨ (t' = n ∧ m' < M)) → nwF S.1 S.2.1 S.2.2 (fv m' t') t' m')
theorem fbI_D {fv : Nat → Nat → Int} (h0 : fv 0 0 = 0) {n : Nat} {S : Int × Nat × Nat} (h : fbD fv n 0 S) : ∀ M, M ≤ 6 ^ n → fbD fv n M (fbI fv n M S)
  | 0, _ => h
  | M + 1, hM => by
    have ih := fbI_D h0 h M (by omega)
    obtain ⟨T, eT⟩ : ∃ T, T = fbI fv n M S := ⟨_, rfl⟩
    show fbD fv n (M + 1) (if (fbI fv n M S).1 < fv M n then (fv M n, n, M) else fbI fv n M S)
    rw [← eT] at ih ⊢
    by_cases c : T.1 < fv M n
    · rw [if_pos c]
      refine Or.inr ⟨rfl, Or.inr ⟨rfl, Nat.lt_succ_self _⟩, by show M < 6 ^ n; omega, fun t' m' hm ht => ?_⟩
      show nwF (fv M n) n M _ _ _
      rcases ih with ⟨i1, i2, i3⟩ | ⟨i1, i2, i3, i4⟩
      · have : t' = n ∧ m' = M := by omega
        rw [this.1, this.2]
        exact nwF_rf
      · by_cases g : t' = n ∧ m' = M
        · rw [g.1, g.2]
          exact nwF_rf
        · have := i4 t' m' hm (by omega)
          unfold nwF at *
          omega
    · rw [if_neg c]
      rcases ih with ⟨i1, i2, i3⟩ | ⟨i1, i2, i3, i4⟩
      · exfalso
        subst i2
        subst i3
        rw [h0] at c
        omega
      · refine Or.inr ⟨i1, by omega, i3, fun t' m' hm ht => ?_⟩
        by_cases g : t' = n ∧ m' = M
        · rw [g.1, g.2]
          unfold nwF
          omega
        · exact i4 t' m' hm (by omega)
theorem fbO_D {fv : Nat → Nat → Int} (h0 : fv 0 0 = 0) : ∀ n, fbD fv n 0 (fbO fv n)
  | 0 => Or.inl ⟨rfl, rfl, rfl⟩
  | n + 1 => by
    have := fbI_D h0 (fbO_D h0 n) (6 ^ n) (Nat.le_refl _)
    show fbD fv (n + 1) 0 (fbI fv n (6 ^ n) (fbO fv n))
    have p6 : 0 < 6 ^ n := Nat.pow_pos (by decide)
    rcases this with ⟨i1, i2, i3⟩ | ⟨i1, i2, i3, i4⟩
    · omega
    · refine Or.inr ⟨i1, by omega, i3, fun t' m' hm ht => i4 t' m' hm ?_⟩
      by_cases g : t' = n
      · subst g
        exact Or.inr ⟨rfl, hm⟩
      · omega
theorem fb_one {fv : Nat → Nat → Int} (h0 : fv 0 0 = 0) {t m : Nat} (ht : t ≤ 3) (hm : m < 6 ^ t) (hf : 0 ≤ fv m t) (hd : dmF fv t m 0 0) : fbO fv 4 = (fv m t, t, m) := by
  have ge := fbO_ge h0 3
  rcases fbO_D h0 4 with ⟨i1, i2, i3⟩ | ⟨i1, i2, i3, i4⟩
  · omega
  · have a := i4 t m hm (by omega)
    have b := hd (fbO fv 4).2.1 (fbO fv 4).2.2 (Nat.zero_le _) (by omega) (Nat.div_eq_of_lt (by rw [Nat.sub_zero]; exact i3)) (by rw [← i1]; exact ge)
    rw [← i1] at b
    obtain ⟨S, eS⟩ : ∃ S, S = fbO fv 4 := ⟨_, rfl⟩
    rw [← eS] at a b ⊢
    obtain ⟨F, x, y⟩ := S
    unfold nwF at a b
    have a : fv m t < F ∨ (fv m t = F ∧ (x < t ∨ (x = t ∧ y ≤ m))) := a
    have b : F < fv m t ∨ (F = fv m t ∧ (t < x ∨ (t = x ∧ m ≤ y))) := b
    have e1 : F = fv m t := by omega
    have e2 : x = t := by omega
    have e3 : y = m := by omega
    rw [e1, e2, e3]
abbrev cX10_fill : ByteArray := prog_1_method_38_code
def yX10_fill : MethodName := ⟨RX10, "fill", "(IIIII)I"⟩
theorem dX10_fill_0 : decode cX10_fill 0 = .ok (.aload_n 0, 1) := by decide +kernel
theorem dX10_fill_1 : decode cX10_fill 1 = .ok (.getfield 10, 3) := by decide +kernel
theorem dX10_fill_4 : decode cX10_fill 4 = .ok (.iconst 4, 1) := by decide +kernel
theorem dX10_fill_5 : decode cX10_fill 5 = .ok (.iload 4, 2) := by decide +kernel
theorem dX10_fill_7 : decode cX10_fill 7 = .ok (.invokevirtual 176, 3) := by decide +kernel
theorem dX10_fill_10 : decode cX10_fill 10 = .ok (.astore 6, 2) := by decide +kernel
theorem dX10_fill_12 : decode cX10_fill 12 = .ok (.aload 6, 2) := by decide +kernel
theorem dX10_fill_14 : decode cX10_fill 14 = .ok (.ifnull 23, 3) := by decide +kernel
theorem dX10_fill_17 : decode cX10_fill 17 = .ok (.aload_n 0, 1) := by decide +kernel
theorem dX10_fill_18 : decode cX10_fill 18 = .ok (.iload_n 1, 1) := by decide +kernel
theorem dX10_fill_19 : decode cX10_fill 19 = .ok (.iload_n 2, 1) := by decide +kernel
theorem dX10_fill_20 : decode cX10_fill 20 = .ok (.invokevirtual 202, 3) := by decide +kernel
theorem dX10_fill_23 : decode cX10_fill 23 = .ok (.ifCond .eq 14, 3) := by decide +kernel
theorem dX10_fill_26 : decode cX10_fill 26 = .ok (.aload_n 0, 1) := by decide +kernel
theorem dX10_fill_27 : decode cX10_fill 27 = .ok (.getfield 34, 3) := by decide +kernel
theorem dX10_fill_30 : decode cX10_fill 30 = .ok (.iload_n 3, 1) := by decide +kernel
theorem dX10_fill_31 : decode cX10_fill 31 = .ok (.invokevirtual 295, 3) := by decide +kernel
theorem dX10_fill_34 : decode cX10_fill 34 = .ok (.ifCond .ne 5, 3) := by decide +kernel
theorem dX10_fill_37 : decode cX10_fill 37 = .ok (.iconst (-1), 1) := by decide +kernel
theorem dX10_fill_38 : decode cX10_fill 38 = .ok (.ireturn, 1) := by decide +kernel
theorem dX10_fill_39 : decode cX10_fill 39 = .ok (.aload_n 0, 1) := by decide +kernel
theorem dX10_fill_40 : decode cX10_fill 40 = .ok (.getfield 59, 3) := by decide +kernel
theorem dX10_fill_43 : decode cX10_fill 43 = .ok (.aload 6, 2) := by decide +kernel
theorem dX10_fill_45 : decode cX10_fill 45 = .ok (.aload_n 0, 1) := by decide +kernel
theorem dX10_fill_46 : decode cX10_fill 46 = .ok (.getfield 34, 3) := by decide +kernel
theorem dX10_fill_49 : decode cX10_fill 49 = .ok (.getfield 251, 3) := by decide +kernel
theorem dX10_fill_52 : decode cX10_fill 52 = .ok (.iload_n 3, 1) := by decide +kernel
theorem dX10_fill_53 : decode cX10_fill 53 = .ok (.aaload, 1) := by decide +kernel
theorem dX10_fill_54 : decode cX10_fill 54 = .ok (.invokevirtual 399, 3) := by decide +kernel
theorem dX10_fill_57 : decode cX10_fill 57 = .ok (.iload 5, 2) := by decide +kernel
theorem dX10_fill_59 : decode cX10_fill 59 = .ok (.iconst (-1), 1) := by decide +kernel
theorem dX10_fill_60 : decode cX10_fill 60 = .ok (.if_icmp .ne 11, 3) := by decide +kernel
theorem dX10_fill_63 : decode cX10_fill 63 = .ok (.aload_n 0, 1) := by decide +kernel
theorem dX10_fill_64 : decode cX10_fill 64 = .ok (.getfield 59, 3) := by decide +kernel
theorem dX10_fill_67 : decode cX10_fill 67 = .ok (.getfield 403, 3) := by decide +kernel
theorem dX10_fill_70 : decode cX10_fill 70 = .ok (.ireturn, 1) := by decide +kernel
theorem dX10_fill_71 : decode cX10_fill 71 = .ok (.iload 5, 2) := by decide +kernel
theorem dX10_fill_73 : decode cX10_fill 73 = .ok (.ifCond .lt 28, 3) := by decide +kernel
theorem dX10_fill_76 : decode cX10_fill 76 = .ok (.iload 5, 2) := by decide +kernel
theorem dX10_fill_78 : decode cX10_fill 78 = .ok (.aload_n 0, 1) := by decide +kernel
theorem dX10_fill_79 : decode cX10_fill 79 = .ok (.getfield 59, 3) := by decide +kernel
theorem dX10_fill_82 : decode cX10_fill 82 = .ok (.getfield 406, 3) := by decide +kernel
theorem dX10_fill_85 : decode cX10_fill 85 = .ok (.if_icmp .ge 16, 3) := by decide +kernel
theorem dX10_fill_88 : decode cX10_fill 88 = .ok (.aload_n 0, 1) := by decide +kernel
theorem dX10_fill_89 : decode cX10_fill 89 = .ok (.getfield 59, 3) := by decide +kernel
theorem dX10_fill_92 : decode cX10_fill 92 = .ok (.getfield 409, 3) := by decide +kernel
theorem dX10_fill_95 : decode cX10_fill 95 = .ok (.iload 5, 2) := by decide +kernel
theorem dX10_fill_97 : decode cX10_fill 97 = .ok (.iaload, 1) := by decide +kernel
theorem dX10_fill_98 : decode cX10_fill 98 = .ok (.goto 4, 3) := by decide +kernel
theorem dX10_fill_101 : decode cX10_fill 101 = .ok (.iconst (-1), 1) := by decide +kernel
theorem dX10_fill_102 : decode cX10_fill 102 = .ok (.ireturn, 1) := by decide +kernel
theorem q_576 : Cond.fieldLink RX10 59 RX10 "filling" "LWorkChains$Filling;" ∈ zTB := zmem 576 (by decide +kernel) rfl
theorem q_1204 : Cond.methodLink RX10 399 yX3_search ∈ zTB := zmem 1204 (by decide +kernel) rfl
theorem q_1205 : Cond.instanceMethod yX3_search ∈ zTB := zmem 1205 (by decide +kernel) rfl
theorem q_1206 : Cond.selects RX3 yX3_search yX3_search ∈ zTB := zmem 1206 (by decide +kernel) rfl
theorem q_1207 : Cond.code yX3_search cX3_search 3 none ∈ zTB := zmem 1207 (by decide +kernel) rfl
theorem k_RX10_399 : zLv RX10 399 RX3 yX3_search cX3_search 3 none 2 := ⟨⟨q_1204, q_1205, q_1206, q_139, q_1207⟩, rfl, ⟨by decide, by decide⟩, by decide +kernel⟩
theorem q_551 : Cond.fieldLink RX10 406 RX3 "bestSize" "I" ∈ zTB := zmem 551 (by decide +kernel) rfl
theorem q_549 : Cond.fieldLink RX10 409 RX3 "best" "[I" ∈ zTB := zmem 549 (by decide +kernel) rfl
theorem q_553 : Cond.fieldLink RX10 403 RX3 "bestFees" "I" ∈ zTB := zmem 553 (by decide +kernel) rfl
def F_X10_fill (i : Nat) (Z : Nat → Int → Int) (q : Nat) (X Y : Nat → Int → Int) (R : Nat → Int → Option Nat) (a : Int) (b : Int) (g : Int) (d : Int) (f : Int) : Prop := (∀ i j, rI (X i j)) → (∀ i j, rL (Y i j)) → (((2 ≤ ((4 : Int)) ∧ ((4 : Int)) < 5) ∧ 0 ≤ (d) ∧ (d) < 2 ∧ (d) < X (i + 3) ((4 : Int))) → ((wcQ Z q X i) ∧ (∀ r6 : Bool, ∀ X3 : Nat → Int → Int, (∀ i j, rI (X3 i j)) → ∀ Y4 : Nat → Int → Int, (∀ i j, rL (Y4 i j)) → ∀ R5 : Nat → Int → Option Nat, (((R5) = wgR Z q R i (a) (b)) ∧ r6 = rOk Z q (a) (b) ∧ (r6 = false → (X3) = X ∧ (Y4) = Y) ∧ (r6 = true → qK X (X3) i ∧ cA (hZ Z q (a) (b) 0) q (X3) (Y4) (R5) (i + 157) ∧ (X3) (cn (R5) (i + 157)) 3 = hZ Z q (a) (b) 0 q 28 ∧ (X3) (cn (R5) (i + 157)) 4 = hZ Z q (a) (b) 0 q 29)) → (((r6 = false) → (wcK R (R5) i ∧ (-1) = rFill Z q (a) (b) (g) (d) (f) ∧ qK X (X3) i)) ∧ ((r6 = true) → ((X3 (i + 157) 2 ≤ 14) ∧ ((((soE X3 (i + 157) (g)) = true) → ((0 ≤ g ∧ g < 15) ∧ (((oRw X3 (i + 23 + 2 * (((4 - 2) * 2 + d) : Int).toNat) 24 ∧ X3 (i + 23 + 2 * (((4 - 2) * 2 + d) : Int).toNat) 0 = 4 ∧ X3 (i + 23 + 2 * (((4 - 2) * 2 + d) : Int).toNat) 1 = 6 ∧ (i + 23 + 2 * (((4 - 2) * 2 + d) : Int).toNat) + 1 < (i + 246)) ∧ (∀ k : Nat, (k : Int) < X3 (i + 23 + 2 * (((4 - 2) * 2 + d) : Int).toNat) 2 → (0 ≤ plC X3 (i + 23 + 2 * (((4 - 2) * 2 + d) : Int).toNat) 2 k ∧ plC X3 (i + 23 + 2 * (((4 - 2) * 2 + d) : Int).toNat) 2 k ≤ 99) ∧ 0 ≤ plC X3 (i + 23 + 2 * (((4 - 2) * 2 + d) : Int).toNat) 3 k ∧ plC X3 (i + 23 + 2 * (((4 - 2) * 2 + d) : Int).toNat) 3 k ≤ 9) ∧ (i + 174 + 2 * (g : Int).toNat) + 1 < (i + 246) ∧ X3 (i + 174 + 2 * (g : Int).toNat) 0 ≤ 6 ∧ ∀ y : Int, 0 ≤ y → y < 6 → 0 ≤ X3 ((i + 174 + 2 * (g : Int).toNat) + 1) y ∧ X3 ((i + 174 + 2 * (g : Int).toNat) + 1) y ≤ 100000) ∧ (∀ X12 : Nat → Int → Int, (∀ i j, rI (X12 i j)) → ∀ R13 : Nat → Int → Option Nat, (((R13) = zU R5 (i + 246) 0 (some (i + 23 + 2 * (((4 - 2) * 2 + d) : Int).toNat))) ∧ (∀ z, z < (i + 246) ∨ (i + 246) + 13 < z → (X12) z = X3 z) ∧ (X12) (i + 252) 0 = X3 (i + 174 + 2 * (g : Int).toNat) 0 ∧ (∀ y : Int, 0 ≤ y → y < 6 → (X12) (i + 253) y = X3 ((i + 174 + 2 * (g : Int).toNat) + 1) y) ∧ ∃ t m, bsT (X12) (X12) (R13) (i + 246) t m ∧ dmF (fvX (X12) (R13) (i + 246)) t m 0 0) → (((¬ f = (-1)) → (((f < 0) → (wcK R (R13) i ∧ (-1) = rFill Z q (a) (b) (g) (d) (f) ∧ qK X (X12) i)) ∧ ((¬ (f < 0)) → ((((X12 (i + 246) 4) ≤ f) → (wcK R (R13) i ∧ (-1) = rFill Z q (a) (b) (g) (d) (f) ∧ qK X (X12) i)) ∧ ((¬ ((X12 (i + 246) 4) ≤ f)) → ((0 ≤ f ∧ f < 3) ∧ (wcK R (R13) i ∧ (X12 (i + 251) (f)) = rFill Z q (a) (b) (g) (d) (f) ∧ qK X (X12) i))))))) ∧ ((¬ (¬ f = (-1))) → (wcK R (R13) i ∧ (X12 (i + 246) 5) = rFill Z q (a) (b) (g) (d) (f) ∧ qK X (X12) i))))))) ∧ (((soE X3 (i + 157) (g)) = false) → (wcK R (R5) i ∧ (-1) = rFill Z q (a) (b) (g) (d) (f) ∧ qK X (X3) i))))))))) ∧ (¬ ((2 ≤ ((4 : Int)) ∧ ((4 : Int)) < 5) ∧ 0 ≤ (d) ∧ (d) < 2 ∧ (d) < X (i + 3) ((4 : Int))) → (wcK R (R) i ∧ (-1) = rFill Z q (a) (b) (g) (d) (f) ∧ qK X (X) i))
set_option maxHeartbeats 4000000 in
set_option maxRecDepth 100000 in
theorem w_X10_fill {l : Launch} {D : va_G} {cy : Nat → ClassId} {bs N : Nat} {sa : Nat → Nat} {kd len : Nat → Nat} {X Y : Nat → Int → Int} {R : Nat → Int → Option Nat} {i : Nat} {Z : Nat → Int → Int} {q : Nat} (hC : zWC N kd len R i) (a : Int) (ha : rI a) (b : Int) (hb : rI b) (g : Int) (hg : rI g) (d : Int) (hd : rI d) (f : Int) (hf : rI f) (hF : F_X10_fill i Z q X Y R a b g d f) : Met l yX10_fill (.code yX10_fill cX10_fill 7 (some .int) :: zTB) (zRm 7 207) (zPc D cy bs sa N kd len X Y R [.ref (bs + (i)), .int (zI (a)), .int (zI (b)), .int (zI (g)), .int (zI (d)), .int (zI (f))]) (zQi D cy bs N kd len (fun r st => (wcK R (st.2.2) i ∧ r = rFill Z q (a) (b) (g) (d) (f) ∧ qK X (st.1) i))) 0 0 (zA bs) := by
  refine zstart (by decide) (Nat.le_of_ble_eq_true rfl) ?_
  intro p e s m args below meth c ls C hE hH hr hlk hnm hl hargs
  have hF := hF hH.2.2.1 hH.2.2.2
  have hS : va_S (zA bs) s.heap s.heap [] := va_S.rf
  have hl : lv_has ls 7 [(0, .ref (bs + (i))), (1, .int (zI (a))), (2, .int (zI (b))), (3, .int (zI (g))), (4, .int (zI (d))), (5, .int (zI (f)))] := hl
  refine lv_aload_n C.1 C.2.1 dX10_fill_0 rfl (lv_at hl 0 rfl) ?_
  refine zg10_0 C hH (zW_n hC) (zW_k hC) q_569 (zW_td hC).1 dX10_fill_1 ?_
  refine zd_iconst C dX10_fill_4 ?_
  refine lv_iload C.1 C.2.1 dX10_fill_5 (lv_at hl 4 rfl) ?_
  refine zgor (zrunV (As := [.int (zI (4)), .int (zI (d))]) (rest := []) C hE hH hS hl.1 (c_X9_rowsAt (l := l) (zW_td hC).2 (4) (by decide) (d) hd) k_RX10_176 ⟨Nat.le_of_ble_eq_true rfl, Nat.le_of_ble_eq_true rfl⟩ (zTold_n0 (zW_td hC).2.1) (zTold_k0 (zW_td hC).2.1) rfl rfl rfl (Nat.le_of_ble_eq_true rfl) dX10_fill_7 ⟨Nat.zero_le _, Nat.zero_le _⟩) hS (fun rq Xq Yq Rq H locs hq hH hS => ?_)
  obtain ⟨h92, h91⟩ := hq
  have h93 : Xq = X := congrArg (fun z => z.1) h92
  have h94 : Yq = Y := congrArg (fun z => z.2.1) h92
  have h95 : Rq = R := congrArg (fun z => z.2.2) h92
  rw [h93, h94, h95] at hH
  rw [h91]
  by_cases c1 : (2 ≤ ((4 : Int)) ∧ ((4 : Int)) < 5) ∧ 0 ≤ (d) ∧ (d) < 2 ∧ (d) < X (i + 3) ((4 : Int))
  · rw [if_pos c1]
    have hF := hF.1 c1
    refine lv_astore (lv' := [(6, .ref (bs + (i + 23 + 2 * (((4 - 2) * 2 + d) : Int).toNat))), (0, .ref (bs + (i))), (1, .int (zI (a))), (2, .int (zI (b))), (3, .int (zI (g))), (4, .int (zI (d))), (5, .int (zI (f)))]) C.1 C.2.1 dX10_fill_10 hl (by decide) rfl (fun ls hl => ?_)
    refine lv_aload C.1 C.2.1 dX10_fill_12 (lv_at hl 0 rfl) ?_
    refine lv_ifnull C.1 C.2.1 dX10_fill_14 ?_
    refine lv_aload_n C.1 C.2.1 dX10_fill_17 rfl (lv_at hl 1 rfl) ?_
    refine lv_iload_n C.1 C.2.1 dX10_fill_18 rfl (lv_at hl 2 rfl) ?_
    refine lv_iload_n C.1 C.2.1 dX10_fill_19 rfl (lv_at hl 3 rfl) ?_
    obtain ⟨o2, hF⟩ := hF
    refine zgoi (zrunV (As := [.int (zI (a)), .int (zI (b))]) (rest := []) C hE hH hS hl.1 (c_X10_weigh (l := l) hC (a) ha (b) hb o2) k_RX10_202 ⟨Nat.le_of_ble_eq_true rfl, Nat.le_of_ble_eq_true rfl⟩ (zW_n hC) (zW_k hC) rfl rfl rfl (Nat.le_of_ble_eq_true rfl) dX10_fill_20 ⟨Nat.zero_le _, Nat.zero_le _⟩) hS (fun rq X3 Y4 R5 H locs hrq hq hH hS => ?_)
    obtain ⟨r6, h91, hq⟩ := hq
    subst h91
    have hF := hF r6 X3 hH.2.2.1 Y4 hH.2.2.2 R5 hq
    have hC := zWC_wg hC hq.1
    refine zd_ifB_eq C 37 dX10_fill_23 (by decide) (fun c7 => ?_) (fun c7 => ?_)
    · have hF := hF.1 c7
      refine zd_iconst C dX10_fill_37 ?_
      exact zd_iret C hr hlk hH hS (by decide) (hF) dX10_fill_38
    · have hF := hF.2 c7
      refine lv_aload_n C.1 C.2.1 dX10_fill_26 rfl (lv_at hl 1 rfl) ?_
      refine zg10_4 C hH (zW_n hC) (zW_k hC) q_573 (zW_lw hC).1 dX10_fill_27 ?_
      refine lv_iload_n C.1 C.2.1 dX10_fill_30 rfl (lv_at hl 4 rfl) ?_
      obtain ⟨o8, hF⟩ := hF
      refine zgoi (zrunV (As := [.int (zI (g))]) (rest := []) C hE hH hS hl.1 (c_X1_isSound (l := l) (zW_lw hC).2.2.2.1.1 (g) hg o8) k_RX10_295 ⟨Nat.le_of_ble_eq_true rfl, Nat.le_of_ble_eq_true rfl⟩ (zChart_n0 (zW_lw hC).2.2.2.1.1) (zChart_k0 (zW_lw hC).2.2.2.1.1) rfl rfl rfl (Nat.le_of_ble_eq_true rfl) dX10_fill_31 ⟨Nat.zero_le _, Nat.zero_le _⟩) hS (fun rq Xq Yq Rq H locs hrq hq hH hS => ?_)
      obtain ⟨h91, h92⟩ := hq
      have h93 : Xq = X3 := congrArg (fun z => z.1) h92
      have h94 : Yq = Y4 := congrArg (fun z => z.2.1) h92
      have h95 : Rq = R5 := congrArg (fun z => z.2.2) h92
      rw [h93, h94, h95] at hH
      subst h91
      refine zd_ifB_ne C 39 dX10_fill_34 (by decide) (fun c9 => ?_) (fun c9 => ?_)
      · have hF := hF.1 c9
        refine lv_aload_n C.1 C.2.1 dX10_fill_39 rfl (lv_at hl 1 rfl) ?_
        refine zg10_7 C hH (zW_n hC) (zW_k hC) q_576 (zW_fi hC).1 dX10_fill_40 ?_
        refine lv_aload C.1 C.2.1 dX10_fill_43 (lv_at hl 0 rfl) ?_
        refine lv_aload_n C.1 C.2.1 dX10_fill_45 rfl (lv_at hl 1 rfl) ?_
        refine zg10_4 C hH (zW_n hC) (zW_k hC) q_573 (zW_lw hC).1 dX10_fill_46 ?_
        refine zg1_9 C hH (zChart_n0 (zW_lw hC).2.2.2.1.1) (zChart_k0 (zW_lw hC).2.2.2.1.1) q_414 (zChart_r14 (zW_lw hC).2.2.2.1.1) dX10_fill_49 ?_
        refine lv_iload_n C.1 C.2.1 dX10_fill_52 rfl (lv_at hl 4 rfl) ?_
        obtain ⟨o10, hF⟩ := hF
        refine zd_aaldr C hH (zChart_n14 (zW_lw hC).2.2.2.1.1) 5 rfl rfl (by rw [(zChart_k14 (zW_lw hC).2.2.2.1.1)]; rfl) o10.1 (by rw [zChart_l14 (zW_lw hC).2.2.2.1.1]; exact o10.2) (by rw [zChart_l14 (zW_lw hC).2.2.2.1.1]; decide) (zChart_lg (zW_lw hC).2.2.2.1.1 o10.1 o10.2).1 dX10_fill_53 ?_
        obtain ⟨o11, hF⟩ := hF
        refine zgov (zrunV (As := [.ref (bs + (i + 23 + 2 * (((4 - 2) * 2 + d) : Int).toNat)), .ref (bs + (i + 174 + 2 * (g : Int).toNat))]) (rest := []) C hE hH hS hl.1 (c_X3_search (l := l) (zW_fi hC).2 (zTd_rw (zW_td hC).2 (rix_0 c1) (rix_1 c1)).1.2 (zTd_rw (zW_td hC).2 (rix_0 c1) (rix_1 c1)).2 (rwN_24 c1) (zChart_lg (zW_lw hC).2.2.2.1.1 o10.1 o10.2).2  o11) k_RX10_399 ⟨Nat.le_of_ble_eq_true rfl, Nat.le_of_ble_eq_true rfl⟩ (zF_n (zW_fi hC).2) (zF_k (zW_fi hC).2) rfl rfl rfl (Nat.le_of_ble_eq_true rfl) dX10_fill_54 ⟨Nat.zero_le _, Nat.zero_le _⟩) hS (fun X12 Yq R13 H locs hq hH hS => ?_)
        obtain ⟨h9Y, hq⟩ := hq
        dsimp only at h9Y
        rw [h9Y] at hH
        have hF := hF X12 hH.2.2.1 R13 hq
        have hC := zWC_putP hC c1 hq.1
        refine lv_iload C.1 C.2.1 dX10_fill_57 (lv_at hl 6 rfl) ?_
        refine zd_iconst C dX10_fill_59 ?_
        refine zd_icmp_ne C hf (by decide) 71 dX10_fill_60 (by decide) (fun c14 => ?_) (fun c14 => ?_)
        · have hF := hF.1 c14
          refine lv_iload C.1 C.2.1 dX10_fill_71 (lv_at hl 6 rfl) ?_
          refine zd_if_lt C hf 101 dX10_fill_73 (by decide) (fun c15 => ?_) (fun c15 => ?_)
          · have hF := hF.1 c15
            refine zd_iconst C dX10_fill_101 ?_
            exact zd_iret C hr hlk hH hS (by decide) (hF) dX10_fill_102
          · have hF := hF.2 c15
            refine lv_iload C.1 C.2.1 dX10_fill_76 (lv_at hl 6 rfl) ?_
            refine lv_aload_n C.1 C.2.1 dX10_fill_78 rfl (lv_at hl 1 rfl) ?_
            refine zg10_7 C hH (zW_n hC) (zW_k hC) q_576 (zW_fi hC).1 dX10_fill_79 ?_
            refine zg3_4 C hH (zF_n (zW_fi hC).2) (zF_k (zW_fi hC).2) q_551 dX10_fill_82 ?_
            refine zd_icmp_ge C hf (hH.2.2.1 _ _) 101 dX10_fill_85 (by decide) (fun c16 => ?_) (fun c16 => ?_)
            · have hF := hF.1 c16
              refine zd_iconst C dX10_fill_101 ?_
              exact zd_iret C hr hlk hH hS (by decide) (hF) dX10_fill_102
            · have hF := hF.2 c16
              refine lv_aload_n C.1 C.2.1 dX10_fill_88 rfl (lv_at hl 1 rfl) ?_
              refine zg10_7 C hH (zW_n hC) (zW_k hC) q_576 (zW_fi hC).1 dX10_fill_89 ?_
              refine zg3_3 C hH (zF_n (zW_fi hC).2) (zF_k (zW_fi hC).2) q_549 (zF_b (zW_fi hC).2).2.2 dX10_fill_92 ?_
              refine lv_iload C.1 C.2.1 dX10_fill_95 (lv_at hl 6 rfl) ?_
              obtain ⟨o17, hF⟩ := hF
              refine zd_iald C hH (zF_n5 (zW_fi hC).2) (zF_b (zW_fi hC).2).1 o17.1 (by rw [(zF_b (zW_fi hC).2).2.1]; exact o17.2) (by rw [(zF_b (zW_fi hC).2).2.1]; decide) dX10_fill_97 ?_
              refine lv_goto (tgt := 102) C.1 C.2.1 dX10_fill_98 (by decide) ?_
              exact zd_iret C hr hlk hH hS (hH.2.2.1 _ _) (hF) dX10_fill_102
        · have hF := hF.2 c14
          refine lv_aload_n C.1 C.2.1 dX10_fill_63 rfl (lv_at hl 1 rfl) ?_
          refine zg10_7 C hH (zW_n hC) (zW_k hC) q_576 (zW_fi hC).1 dX10_fill_64 ?_
          refine zg3_5 C hH (zF_n (zW_fi hC).2) (zF_k (zW_fi hC).2) q_553 dX10_fill_67 ?_
          exact zd_iret C hr hlk hH hS (hH.2.2.1 _ _) (hF) dX10_fill_70
      · have hF := hF.2 c9
        refine zd_iconst C dX10_fill_37 ?_
        exact zd_iret C hr hlk hH hS (by decide) (hF) dX10_fill_38
  · rw [if_neg c1]
    have hF := hF.2 c1
    refine lv_astoreN (lv' := [(6, .null), (0, .ref (bs + (i))), (1, .int (zI (a))), (2, .int (zI (b))), (3, .int (zI (g))), (4, .int (zI (d))), (5, .int (zI (f)))]) C.1 C.2.1 dX10_fill_10 hl (by decide) rfl (fun ls hl => ?_)
    refine lv_aloadN C.1 C.2.1 dX10_fill_12 (lv_at hl 0 rfl) ?_
    refine lv_ifnullN (tgt := 37) C.1 C.2.1 dX10_fill_14 (by decide) ?_
    refine zd_iconst C dX10_fill_37 ?_
    exact zd_iret C hr hlk hH hS (by decide) (hF) dX10_fill_38
theorem v_X10_fill {X Y : Nat → Int → Int} {R : Nat → Int → Option Nat} {i : Nat} {Z : Nat → Int → Int} {q : Nat} (a : Int) (ha : rI a) (b : Int) (hb : rI b) (g : Int) (hg : rI g) (d : Int) (hd : rI d) (f : Int) (hf : rI f) (hp : wcQ Z q X i) : F_X10_fill i Z q X Y R a b g d f := by
  unfold F_X10_fill
  intro hX hY
  have hO := hp.1
  have hT := hp.2.1
  refine ⟨?_, ?_⟩
  · intro c1
    obtain ⟨d0, d1, d2⟩ := c1.2
    have d2 : d < X (i + 1 + 2) 4 := d2
    have ts : X (i + 1 + 2) 4 = Z (q + 5) 4 := hT.2.2.1 4 (by decide) (by decide)
    have qs := hO.1.1 4 (by decide) (by decide)
    obtain ⟨dn, rfl⟩ := nat_of d0
    have ej : (((4 - 2) * 2 + (dn : Int)) : Int).toNat = 4 + dn := by omega
    rw [ej]
    have hF := hT.2.2.2.2.2.2.2 dn (by omega)
    rw [show i + 1 + 30 + 2 * dn = i + 23 + 2 * (4 + dn) by omega] at hF
    have hr := hF.2 d2
    rw [show 50 * (0 : Int) + 25 * (dn : Int) = 25 * dn by omega] at hr
    have em : mIs q Z 4 dn = true := mIn_t.mpr (by omega)
    have hpo := hO.2.2.2 dn d0 (by omega)
    refine ⟨?_, ?_⟩
    · exact hp
    intro r6
    intro X3
    intro rX3
    intro Y4
    intro rY4
    intro R5
    intro h1
    obtain ⟨eR, er, hf, ht⟩ := h1
    refine ⟨?_, ?_⟩
    · intro c2
      obtain ⟨rfl, rfl⟩ := hf c2
      have e : rOk Z q a b = false := by rw [← er]; exact c2
      have hk : qK X3 X3 i := ⟨fun _ _ => rfl, hp.2.2⟩
      exact ⟨wcK_wg eR, by unfold rFill; rw [em, e]; rfl, hk⟩
    intro c3
    obtain ⟨hk, hA, h3, h4⟩ := ht c3
    have e : rOk Z q a b = true := by rw [← er]; exact c3
    have l := cA_l hA
    have b0 := cA_b hA
    have a6 := cA_a hA
    have e27 := hz_27 (Z := Z) (q := q) (n := a) (c := b) (f := 0)
    have e26 := hz_26 (Z := Z) (q := q) (n := a) (c := b) (f := 0)
    have vz := hA.1.1.1
    refine ⟨?_, ?_⟩
    · omega
    refine ⟨?_, ?_⟩
    · intro c4
      rw [cA_so hA, Bool.and_eq_true, decide_eq_true_eq] at c4
      obtain ⟨gn, rfl⟩ := nat_of c4.1.1
      have eg : ((gn : Nat) : Int).toNat = gn := by omega
      rw [eg] at c4
      have l1 := cA_ld hA c4.1.2 c4.2
      have l1 : X3 (i + 174 + 2 * gn) 0 = hZ Z q a b 0 q 26 ∧ (∀ y, 0 ≤ y → y < hZ Z q a b 0 q 26 → X3 (i + 174 + 2 * gn + 1) y = rLd (hZ Z q a b 0) q gn y) ∧ ∀ y, 0 ≤ y → y < 6 → 0 ≤ X3 (i + 174 + 2 * gn + 1) y ∧ X3 (i + 174 + 2 * gn + 1) y ≤ 99 + 396 * gn := l1
      rw [eg]
      obtain ⟨J, eJ⟩ : ∃ J, J = i + 23 + 2 * (4 + dn) := ⟨_, rfl⟩
      have kJ : X3 J = X J := hk.1 _ (by omega)
      have kJ1 : X3 (J + 1) = X (J + 1) := hk.1 _ (by omega)
      rw [← eJ] at hF hr ⊢
      have cnt : X J 2 = Z (q + 10) (25 * dn) := hr.1
      have pl : ∀ (k : Nat) (w : Int), (k : Int) < X J 2 → 0 ≤ w → w < 4 → plC X3 J w k = Z (q + 10) (25 * dn + 1 + 4 * k + w) := fun k w h1 h2 h3 => by
        unfold plC
        rw [kJ, kJ1, hF.1.2.1]
        exact hr.2 k w (by omega) h1 h2 h3
      have gl : ((gn : Nat) : Int).toNat = gn := by omega
      have r26 : hZ Z q a b 0 q 26 = Z (q + 6) (13 * a + 6) := hZ_s.2.2.1
      refine ⟨?_, ?_⟩
      · omega
      refine ⟨?_, ?_⟩
      · refine ⟨⟨?_, ?_, ?_, by omega⟩, fun k hk => ?_, by omega, by omega, fun y y0 y1 => ?_⟩
        · unfold oRw
          rw [kJ]
          exact hF.1.1
        · rw [kJ]
          exact hF.1.2.1
        · rw [kJ]
          exact hF.1.2.2
        · rw [kJ] at hk
          rw [pl k 2 hk (by decide) (by decide), pl k 3 hk (by decide) (by decide)]
          have h9 := hpo.2 k (by omega) (by omega)
          exact ⟨⟨by omega, h9.2.2.1.2⟩, h9.2.2.2⟩
        · have := l1.2.2 y y0 y1
          exact ⟨this.1, by omega⟩
      intro X12
      intro rX12
      intro R13
      intro h2
      obtain ⟨eR13, fo, v0, v1, t, m, b9, d9⟩ := h2
      have p9 : pl9 R13 (i + 246) = J := by
        unfold pl9
        rw [eR13, zU_s]
        rfl
      have jJ : X12 J = X J := (fo _ (by omega)).trans kJ
      have jJ1 : X12 (J + 1) = X (J + 1) := (fo _ (by omega)).trans kJ1
      have hk12 : qK X X12 i := ⟨fun z hz => (fo z (by omega)).trans (hk.1 z hz), by
        unfold chI
        rw [fo _ (by omega), fo _ (by omega)]
        exact hk.2⟩
      have hw9 : wcK R R13 i := ⟨fun N kd len h => zWC_putP (zWC_wg h eR) c1 (by rw [ej, ← eJ]; exact eR13), fun z hz => by rw [eR13, zU_o (by omega), eR]; exact wgR_o hz⟩
      have eF : ∀ m t, fvX X12 R13 (i + 246) m t = rFlv Z q a b gn dn m t := fun m t => by
        unfold fvX rFlv
        rw [p9, jJ]
        show fsV (X12 (i + 252) 0) _ _ _ _ _ _ (X12 (i + 253)) _ = _
        rw [v0, l1.1, r26, cnt, eg]
        refine fsV_g (fun k hk => ?_) (fun y y0 y1 => ?_) t
        · have pk : ∀ w : Int, 0 ≤ w → w < 4 → plC X12 J w k = Z (q + 10) (25 * dn + 1 + 4 * k + w) := fun w h2 h3 => by
            have := pl k w (by omega) h2 h3
            unfold plC at this ⊢
            rw [jJ, jJ1, ← kJ, ← kJ1]
            exact this
          exact ⟨pk 0 (by decide) (by decide), pk 1 (by decide) (by decide), pk 2 (by decide) (by decide), pk 3 (by decide) (by decide)⟩
        · rw [v1 y y0 (by omega)]
          exact l1.2.1 y y0 (by omega)
      have eF' : fvX X12 R13 (i + 246) = rFlv Z q a b gn dn := funext fun m => funext fun t => eF m t
      obtain ⟨⟨b1, b2⟩, b3, b4, b5, b6⟩ := b9
      rw [eF'] at b4 b5 d9
      have one : rFl Z q a b gn dn = (rFlv Z q a b gn dn m t, t, m) := fb_one rfl b1 b2 b5 d9
      have E : rFill Z q a b gn dn f = if f = -1 then (rFl Z q a b gn dn).1 else if mIn f 0 ((rFl Z q a b gn dn).2.1 - 1) then ((dg6 (rFl Z q a b gn dn).2.1 (rFl Z q a b gn dn).2.2 f.toNat : Nat) : Int) else -1 := by
        unfold rFill
        rw [em, e, mIn_t.mpr (show 0 ≤ (gn : Int) ∧ (gn : Int) ≤ qN Z q b by omega), eg, c4.2]
        rfl
      rw [one] at E
      refine ⟨?_, ?_⟩
      · intro c5
        refine ⟨?_, ?_⟩
        · intro c6
          exact ⟨hw9, by rw [E, if_neg c5, if_neg (show ¬ mIn f 0 _ = true by rw [mIn_t]; omega)], hk12⟩
        intro c7
        refine ⟨?_, ?_⟩
        · intro c8
          exact ⟨hw9, by rw [E, if_neg c5, if_neg (show ¬ mIn f 0 (((t : Nat) : Int) - 1) = true by rw [mIn_t]; omega)], hk12⟩
        intro c9
        refine ⟨?_, ?_⟩
        · omega
        obtain ⟨fn, rfl⟩ := nat_of (show 0 ≤ f by omega)
        refine ⟨hw9, ?_, hk12⟩
        rw [E, if_neg c5, if_pos (show mIn (fn : Int) 0 (((t : Nat) : Int) - 1) = true from mIn_t.mpr (by omega)), show ((fn : Nat) : Int).toNat = fn by omega]
        exact b6 fn (by omega)
      intro c10
      exact ⟨hw9, by rw [E, if_pos (Classical.not_not.mp c10)]; exact b4, hk12⟩
    intro c11
    have e9 : (mIn g 0 (qN Z q b) && sdf (hZ Z q a b 0) q g.toNat) = false := by
      rw [cA_so hA, e27] at c11
      cases s1 : sdf (hZ Z q a b 0) q g.toNat
      · simp
      · rw [s1, Bool.and_true, decide_eq_false_iff_not] at c11
        rw [mIn_f.mpr (show ¬ (0 ≤ g ∧ g ≤ qN Z q b) by omega)]
        simp
    refine ⟨wcK_wg eR, ?_, hk⟩
    unfold rFill
    rw [em, e, e9]
    rfl
  intro c12
  have ts : X (i + 1 + 2) 4 = Z (q + 5) 4 := hT.2.2.1 4 (by decide) (by decide)
  have qs := hO.1.1 4 (by decide) (by decide)
  refine ⟨wcK.rf, ?_, ⟨fun _ _ => rfl, hp.2.2⟩⟩
  unfold rFill
  rw [show mIs q Z 4 d = false from mIs_f.mpr (fun z => c12 ⟨by decide, z.1, by omega, by show d < X (i + 1 + 2) 4; omega⟩)]
  rfl
theorem c_X10_fill {l : Launch} {D : va_G} {cy : Nat → ClassId} {bs N : Nat} {sa : Nat → Nat} {kd len : Nat → Nat} {X Y : Nat → Int → Int} {R : Nat → Int → Option Nat} {i : Nat} {Z : Nat → Int → Int} {q : Nat} (hC : zWC N kd len R i) (a : Int) (ha : rI a) (b : Int) (hb : rI b) (g : Int) (hg : rI g) (d : Int) (hd : rI d) (f : Int) (hf : rI f) (hp : wcQ Z q X i) : Met l yX10_fill (.code yX10_fill cX10_fill 7 (some .int) :: zTB) (zRm 7 207) (zPc D cy bs sa N kd len X Y R [.ref (bs + (i)), .int (zI (a)), .int (zI (b)), .int (zI (g)), .int (zI (d)), .int (zI (f))]) (zQi D cy bs N kd len (fun r st => (wcK R (st.2.2) i ∧ r = rFill Z q (a) (b) (g) (d) (f) ∧ qK X (st.1) i))) 0 0 (zA bs) := w_X10_fill hC a ha b hb g hg d hd f hf (v_X10_fill a ha b hb g hg d hd f hf hp)
