/-- who is whole, if some never come -/
def woF (P : Nat → Nat) (snd s : Nat → Bool) : Nat → Bool := pr P true (fun k x => !s k && snd k && x)
theorem woF_s {P : Nat → Nat} {snd s : Nat → Bool} {k : Nat} (h : P k < k) : woF P snd s k = (!s k && snd k && woF P snd s (P k)) := pr_s h
theorem woF_0 {P : Nat → Nat} {snd s : Nat → Bool} : woF P snd s 0 = true := pr_0
abbrev mWo (X : Nat → Int → Int) (i : Nat) (a : Int) : Nat → Bool := woF (rP X i) (sdf X i) (fun k => mHas a k)
/-- the rows of those that are whole: since when, rising -/
def wK (X1 : Nat → Int → Int) (i : Nat) (w : Nat → Bool) (n : Nat) : Prop := X1 i 36 = bS w n ∧ (1 ≤ X1 i 37 ∧ X1 i 37 ≤ n) ∧ (∀ j, j < n → w j = true → 0 ≤ X1 (i + 17) j ∧ X1 (i + 17) j < X1 i 37) ∧ ∀ j j', j < j' → j' < n → w j = true → w j' = true → X1 (i + 17) j < X1 (i + 17) j'
def tW (X X1 : Nat → Int → Int) (i : Nat) : Prop := (∀ a, a ≠ i → a ≠ i + 17 → X1 a = X a) ∧ ∀ s, s ≠ 36 → s ≠ 37 → X1 i s = X i s
theorem tW_t {X X1 : Nat → Int → Int} {i : Nat} (h : tW X X1 i) : tS X X1 i := ⟨h.1 _ (by omega) (by omega), h.1 _ (by omega) (by omega), h.2 _ (by decide) (by decide), h.2 _ (by decide) (by decide), h.2 _ (by decide) (by decide), h.2 _ (by decide) (by decide), h.2 _ (by decide) (by decide)⟩
theorem wK_ah {X1 : Nat → Int → Int} {i n : Nat} {w : Nat → Bool} (h : wK X1 i w n) {a b : Nat} (ha : a < n) (hb : b < n) (wa : w a = true) (wb : w b = true) : mAhd X1 i a b = decide (a < b) := by
  unfold mAhd
  split
  · rw [decide_eq_decide]
    constructor
    · intro g
      rcases Nat.lt_trichotomy a b with e | e | e
      · exact e
      · subst e; omega
      · have := h.2.2.2 b a e ha wb wa; omega
    · intro g
      exact h.2.2.2 a b g hb wa wb
  · rw [decide_eq_decide]
    omega
/-- the tip by numbers -/
def rTip (X : Nat → Int → Int) (i : Nat) (w : Nat → Bool) : Nat := sTip (X i 28) (rP X i) (rW X i) (rG X i) w (fun a b => decide (a < b)) (X i 27).toNat
theorem oH_W {X Y : Nat → Int → Int} {i : Nat} (h : oH X Y i) : oW X Y i := by
  obtain ⟨⟨hg, ha, hb, hbs⟩, -, hl, -⟩ := h
  have e : (((X i 27 - 1).toNat : Nat) : Int) = X i 27 - 1 := by omega
  refine ⟨hb, by rw [← e]; exact hbs.1, fun j hj => ?_⟩
  rw [(hl j hj).2.1]
  exact sWk_14 (rP_par hbs.1) (by omega) hg.2.2.2.1 hg.2.2.2.2 j (by omega)
theorem oW_t {X X1 Y Y1 : Nat → Int → Int} {i : Nat} (t : tS X X1 i) (hy : Y1 (i + 14) = Y (i + 14)) (h : oW X Y i) : oW X1 Y1 i := by
  obtain ⟨h1, h2, h3⟩ := h
  refine ⟨by rw [t.2.2.2.2.2.1]; exact h1, by rw [t.2.2.2.2.2.1]; exact oB_t t h2, fun j hj => ?_⟩
  rw [t.2.2.2.2.2.1] at hj
  rw [hy]
  exact h3 j hj
theorem tip_eq {X X1 Y : Nat → Int → Int} {i : Nat} {w : Nat → Bool} (h : oH X Y i) (t : tW X X1 i) (k : wK X1 i w (X i 27).toNat) (w0 : w 0 = true) : mTip X1 Y i = rTip X i w := by
  have ts := tW_t t
  obtain ⟨⟨hg, ha, hb, hbs⟩, -, hl, -⟩ := h
  unfold mTip rTip
  rw [t.2 28 (by decide) (by decide), rP_t ts, ts.2.2.2.2.2.1]
  refine (sTip_cong (by omega) w0 (fun j hj => ?_) (fun j hj => ?_) (fun j hj => ?_) (fun a b h1 h2 h3 h4 => ?_)).symm
  · exact ((hl j (by omega)).2.1).symm
  · exact ((hl j (by omega)).2.2).symm
  · show w j = mHas (X1 i 36) j
    rw [k.1, bS_has w (by omega) hj]
  · exact (wK_ah k h1 h2 h3 h4).symm
abbrev cX11_tipWithout : ByteArray := prog_13_method_61_code
def yX11_tipWithout : MethodName := ⟨RX11, "tipWithout", "(I)I"⟩
theorem dX11_tipWithout_0 : decode cX11_tipWithout 0 = .ok (.aload_n 0, 1) := by decide +kernel
theorem dX11_tipWithout_1 : decode cX11_tipWithout 1 = .ok (.invokevirtual 340, 3) := by decide +kernel
theorem dX11_tipWithout_4 : decode cX11_tipWithout 4 = .ok (.iconst 1, 1) := by decide +kernel
theorem dX11_tipWithout_5 : decode cX11_tipWithout 5 = .ok (.istore_n 2, 1) := by decide +kernel
theorem dX11_tipWithout_6 : decode cX11_tipWithout 6 = .ok (.iload_n 2, 1) := by decide +kernel
theorem dX11_tipWithout_7 : decode cX11_tipWithout 7 = .ok (.aload_n 0, 1) := by decide +kernel
theorem dX11_tipWithout_8 : decode cX11_tipWithout 8 = .ok (.getfield 255, 3) := by decide +kernel
theorem dX11_tipWithout_11 : decode cX11_tipWithout 11 = .ok (.if_icmp .ge 48, 3) := by decide +kernel
theorem dX11_tipWithout_14 : decode cX11_tipWithout 14 = .ok (.iload_n 1, 1) := by decide +kernel
theorem dX11_tipWithout_15 : decode cX11_tipWithout 15 = .ok (.iload_n 2, 1) := by decide +kernel
theorem dX11_tipWithout_16 : decode cX11_tipWithout 16 = .ok (.invokestatic 92, 3) := by decide +kernel
theorem dX11_tipWithout_19 : decode cX11_tipWithout 19 = .ok (.ifCond .ne 34, 3) := by decide +kernel
theorem dX11_tipWithout_22 : decode cX11_tipWithout 22 = .ok (.aload_n 0, 1) := by decide +kernel
theorem dX11_tipWithout_23 : decode cX11_tipWithout 23 = .ok (.getfield 292, 3) := by decide +kernel
theorem dX11_tipWithout_26 : decode cX11_tipWithout 26 = .ok (.iload_n 2, 1) := by decide +kernel
theorem dX11_tipWithout_27 : decode cX11_tipWithout 27 = .ok (.invokestatic 92, 3) := by decide +kernel
theorem dX11_tipWithout_30 : decode cX11_tipWithout 30 = .ok (.ifCond .eq 23, 3) := by decide +kernel
theorem dX11_tipWithout_33 : decode cX11_tipWithout 33 = .ok (.aload_n 0, 1) := by decide +kernel
theorem dX11_tipWithout_34 : decode cX11_tipWithout 34 = .ok (.getfield 322, 3) := by decide +kernel
theorem dX11_tipWithout_37 : decode cX11_tipWithout 37 = .ok (.aload_n 0, 1) := by decide +kernel
theorem dX11_tipWithout_38 : decode cX11_tipWithout 38 = .ok (.iload_n 2, 1) := by decide +kernel
theorem dX11_tipWithout_39 : decode cX11_tipWithout 39 = .ok (.invokevirtual 264, 3) := by decide +kernel
theorem dX11_tipWithout_42 : decode cX11_tipWithout 42 = .ok (.invokestatic 92, 3) := by decide +kernel
theorem dX11_tipWithout_45 : decode cX11_tipWithout 45 = .ok (.ifCond .eq 8, 3) := by decide +kernel
theorem dX11_tipWithout_48 : decode cX11_tipWithout 48 = .ok (.aload_n 0, 1) := by decide +kernel
theorem dX11_tipWithout_49 : decode cX11_tipWithout 49 = .ok (.iload_n 2, 1) := by decide +kernel
theorem dX11_tipWithout_50 : decode cX11_tipWithout 50 = .ok (.invokevirtual 343, 3) := by decide +kernel
theorem dX11_tipWithout_53 : decode cX11_tipWithout 53 = .ok (.iinc 2 1, 3) := by decide +kernel
theorem dX11_tipWithout_56 : decode cX11_tipWithout 56 = .ok (.goto (-50), 3) := by decide +kernel
theorem dX11_tipWithout_59 : decode cX11_tipWithout 59 = .ok (.aload_n 0, 1) := by decide +kernel
theorem dX11_tipWithout_60 : decode cX11_tipWithout 60 = .ok (.invokevirtual 346, 3) := by decide +kernel
theorem dX11_tipWithout_63 : decode cX11_tipWithout 63 = .ok (.ireturn, 1) := by decide +kernel
theorem q_1716 : Cond.methodLink RX11 340 yX11_beginWhole ∈ zTB := zmem 1716 (by decide +kernel) rfl
theorem q_1718 : Cond.instanceMethod yX11_beginWhole ∈ zTB := zmem 1718 (by decide +kernel) rfl
theorem q_76 : Cond.selects RX11 yX11_beginWhole yX11_beginWhole ∈ zTB := zmem 76 (by decide +kernel) rfl
theorem q_1719 : Cond.code yX11_beginWhole cX11_beginWhole 1 none ∈ zTB := zmem 1719 (by decide +kernel) rfl
theorem k_RX11_340 : zLv RX11 340 RX11 yX11_beginWhole cX11_beginWhole 1 none 0 := ⟨⟨q_1716, q_1718, q_76, q_140, q_1719⟩, rfl, ⟨by decide, by decide⟩, by decide +kernel⟩
theorem q_1732 : Cond.methodLink RX11 346 yX11_tipNow ∈ zTB := zmem 1732 (by decide +kernel) rfl
theorem q_1734 : Cond.instanceMethod yX11_tipNow ∈ zTB := zmem 1734 (by decide +kernel) rfl
theorem q_80 : Cond.selects RX11 yX11_tipNow yX11_tipNow ∈ zTB := zmem 80 (by decide +kernel) rfl
theorem q_1735 : Cond.code yX11_tipNow cX11_tipNow 3 (some .int) ∈ zTB := zmem 1735 (by decide +kernel) rfl
theorem k_RX11_346 : zLv RX11 346 RX11 yX11_tipNow cX11_tipNow 3 (some .int) 0 := ⟨⟨q_1732, q_1734, q_80, q_140, q_1735⟩, rfl, ⟨by decide, by decide⟩, by decide +kernel⟩
theorem q_1763 : Cond.methodLink RX11 343 yX11_becomesWhole ∈ zTB := zmem 1763 (by decide +kernel) rfl
theorem q_1765 : Cond.instanceMethod yX11_becomesWhole ∈ zTB := zmem 1765 (by decide +kernel) rfl
theorem q_87 : Cond.selects RX11 yX11_becomesWhole yX11_becomesWhole ∈ zTB := zmem 87 (by decide +kernel) rfl
theorem q_1766 : Cond.code yX11_becomesWhole cX11_becomesWhole 2 none ∈ zTB := zmem 1766 (by decide +kernel) rfl
theorem k_RX11_343 : zLv RX11 343 RX11 yX11_becomesWhole cX11_becomesWhole 2 none 1 := ⟨⟨q_1763, q_1765, q_87, q_140, q_1766⟩, rfl, ⟨by decide, by decide⟩, by decide +kernel⟩
def F_X11_tipWithout (i : Nat) (X Y : Nat → Int → Int) (R : Nat → Int → Option Nat) (a : Int) : Prop := (∀ i j, rI (X i j)) → (∀ i j, rL (Y i j)) → ∀ X1 : Nat → Int → Int, (∀ i j, rI (X1 i j)) → (X1 = bgW X i) → ((∃ q : Nat, (1 : Int) = q ∧ 1 ≤ q ∧ (1 : Int) ≤ X i 27 ∧ tW X X1 i ∧ wK X1 i (mWo X i a) q) ∧ (∀ (k : Int) (X3 : Nat → Int → Int), rI k → (∀ i j, rI (X3 i j)) → (∃ q : Nat, k = q ∧ 1 ≤ q ∧ k ≤ X i 27 ∧ tW X X3 i ∧ wK X3 i (mWo X i a) q) → ((((X3 (i) 27) ≤ k) → ((oW X3 Y i) ∧ (∀ r7 : Int, rI r7 → ∀ Y6 : Nat → Int → Int, (∀ i j, rL (Y6 i j)) → (r7 = ((mTip X3 Y i : Nat) : Int) ∧ ∀ a, a ≠ i + 18 → (Y6) a = Y a) → (r7 = ((rTip X i (mWo X i (a)) : Nat) : Int) ∧ tW X (X3) i ∧ wK (X3) i (mWo X i (a)) (X i 27).toNat ∧ ∀ a, a ≠ i + 18 → (Y6) a = Y a)))) ∧ ((¬ ((X3 (i) 27) ≤ k)) → ((((mHas (a) (k)) = true) → ((rI (k + 1)) ∧ (∃ q : Nat, k + 1 = q ∧ 1 ≤ q ∧ k + 1 ≤ X i 27 ∧ tW X X3 i ∧ wK X3 i (mWo X i a) q) ∧ (((X i 27 - (k + 1)).toNat) < ((X i 27 - (k)).toNat)))) ∧ (((mHas (a) (k)) = false) → ((((mHas (X3 (i) 35) (k)) = false) → ((rI (k + 1)) ∧ (∃ q : Nat, k + 1 = q ∧ 1 ≤ q ∧ k + 1 ≤ X i 27 ∧ tW X X3 i ∧ wK X3 i (mWo X i a) q) ∧ (((X i 27 - (k + 1)).toNat) < ((X i 27 - (k)).toNat)))) ∧ (((mHas (X3 (i) 35) (k)) = true) → ((oC X3 i ∧ 0 ≤ k ∧ k ≤ 14) ∧ (rI (mPar X3 i (k)) → ((((mHas (X3 (i) 36) (mPar X3 i (k))) = false) → ((rI (k + 1)) ∧ (∃ q : Nat, k + 1 = q ∧ 1 ≤ q ∧ k + 1 ≤ X i 27 ∧ tW X X3 i ∧ wK X3 i (mWo X i a) q) ∧ (((X i 27 - (k + 1)).toNat) < ((X i 27 - (k)).toNat)))) ∧ (((mHas (X3 (i) 36) (mPar X3 i (k))) = true) → ((0 ≤ k ∧ k ≤ 14 ∧ 0 ≤ X3 i 37 ∧ X3 i 37 ≤ 1000) ∧ (∀ X17 : Nat → Int → Int, (∀ i j, rI (X17 i j)) → (X17 = bcW X3 i (k)) → ((rI (k + 1)) ∧ (∃ q : Nat, k + 1 = q ∧ 1 ≤ q ∧ k + 1 ≤ X i 27 ∧ tW X X17 i ∧ wK X17 i (mWo X i a) q) ∧ (((X i 27 - (k + 1)).toNat) < ((X i 27 - (k)).toNat)))))))))))))))))
set_option maxHeartbeats 4000000 in
set_option maxRecDepth 100000 in
theorem w_X11_tipWithout {l : Launch} {D : va_G} {cy : Nat → ClassId} {bs N : Nat} {sa : Nat → Nat} {kd len : Nat → Nat} {X Y : Nat → Int → Int} {R : Nat → Int → Option Nat} {i : Nat} (hM : zM N kd len R i) (a : Int) (ha : rI a) (hF : F_X11_tipWithout i X Y R a) : Met l yX11_tipWithout (.code yX11_tipWithout cX11_tipWithout 3 (some .int) :: zTB) (zRm 4 89) (zPc D cy bs sa N kd len X Y R [.ref (bs + (i)), .int (zI (a))]) (zQi D cy bs N kd len (fun r st => st.2.2 = R ∧ (r = ((rTip X i (mWo X i (a)) : Nat) : Int) ∧ tW X (st.1) i ∧ wK (st.1) i (mWo X i (a)) (X i 27).toNat ∧ ∀ a, a ≠ i + 18 → (st.2.1) a = Y a))) 0 0 (zA bs) := by
  refine zstart (by decide) (Nat.le_of_ble_eq_true rfl) ?_
  intro p e s m args below meth c ls C hE hH hr hlk hnm hl hargs
  have hF := hF hH.2.2.1 hH.2.2.2
  have hS : va_S (zA bs) s.heap s.heap [] := va_S.rf
  have hl : lv_has ls 3 [(0, .ref (bs + (i))), (1, .int (zI (a)))] := hl
  refine lv_aload_n C.1 C.2.1 dX11_tipWithout_0 rfl (lv_at hl 0 rfl) ?_
  refine zgov (zrunV (As := []) (rest := []) C hE hH hS hl.1 (c_X11_beginWhole (l := l) hM ) k_RX11_340 ⟨Nat.le_of_ble_eq_true rfl, Nat.le_of_ble_eq_true rfl⟩ (zM_n0 hM) (zM_k0 hM) rfl rfl rfl (Nat.le_of_ble_eq_true rfl) dX11_tipWithout_1 ⟨Nat.zero_le _, Nat.zero_le _⟩) hS (fun X1 Yq Rq H locs hq hH hS => ?_)
  obtain ⟨h9Y, h9R, hq⟩ := hq
  dsimp only at h9Y h9R
  rw [h9Y, h9R] at hH
  have hF := hF X1 hH.2.2.1 hq
  refine zd_iconst C dX11_tipWithout_4 ?_
  refine lv_istore_n (lv' := [(2, .int (zI (1))), (0, .ref (bs + (i))), (1, .int (zI (a)))]) C.1 C.2.1 dX11_tipWithout_5 rfl hl (by decide) rfl (fun ls hl => ?_)
  obtain ⟨hI2, hF⟩ := hF
  have L2 : ∀ (fu : Nat) (k : Int) (X3 : Nat → Int → Int), rI k → (∃ q : Nat, k = q ∧ 1 ≤ q ∧ k ≤ X i 27 ∧ tW X X3 i ∧ wK X3 i (mWo X i a) q) → ((X i 27 - (k)).toNat) < fu → ∀ (H : Heap) (locs : List Loc) (ls : Array Slot), zH D cy bs N kd len X3 Y R H → va_S (zA bs) s.heap H locs → lv_has ls 3 [(2, .int (zI (k))), (0, .ref (bs + (i))), (1, .int (zI (a)))] → W p l e (zRm 4 89) s m args below meth c H locs 0 0 (MQ below (zQi D cy bs N kd len (fun r st => st.2.2 = R ∧ (r = ((rTip X i (mWo X i (a)) : Nat) : Int) ∧ tW X (st.1) i ∧ wK (st.1) i (mWo X i (a)) (X i 27).toNat ∧ ∀ a, a ≠ i + 18 → (st.2.1) a = Y a))) args s 0 0 (zA bs)) (F0 m 6 ls []) := by
    intro fu
    induction fu with
    | zero => intro k X3 _ _ hmu; exact absurd hmu (Nat.not_lt_zero _)
    | succ fu ih2 =>
      intro k X3 hk hI hmu2 H locs ls hH hS hl
      have hF := hF k X3 hk hH.2.2.1 hI
      refine lv_iload_n C.1 C.2.1 dX11_tipWithout_6 rfl (lv_at hl 0 rfl) ?_
      refine lv_aload_n C.1 C.2.1 dX11_tipWithout_7 rfl (lv_at hl 1 rfl) ?_
      refine zg11_27 C hH (zM_n0 hM) (zM_k0 hM) q_1314 dX11_tipWithout_8 ?_
      refine zd_icmp_ge C hk (hH.2.2.1 _ _) 59 dX11_tipWithout_11 (by decide) (fun c4 => ?_) (fun c4 => ?_)
      · have hF := hF.1 c4
        refine lv_aload_n C.1 C.2.1 dX11_tipWithout_59 rfl (lv_at hl 1 rfl) ?_
        obtain ⟨o5, hF⟩ := hF
        refine zgoi (zrunV (As := []) (rest := []) C hE hH hS hl.1 (c_X11_tipNow (l := l) hM  o5) k_RX11_346 ⟨Nat.le_of_ble_eq_true rfl, Nat.le_of_ble_eq_true rfl⟩ (zM_n0 hM) (zM_k0 hM) rfl rfl rfl (Nat.le_of_ble_eq_true rfl) dX11_tipWithout_60 ⟨Nat.zero_le _, Nat.zero_le _⟩) hS (fun r7 Xq Y6 Rq H locs hrq hq hH hS => ?_)
        obtain ⟨h9X, h9R, hq⟩ := hq
        dsimp only at h9X h9R
        rw [h9X, h9R] at hH
        have hr7 := hrq
        have hF := hF r7 hrq Y6 hH.2.2.2 hq
        exact zd_iret C hr hlk hH hS hr7 (⟨rfl, hF⟩) dX11_tipWithout_63
      · have hF := hF.2 c4
        refine lv_iload_n C.1 C.2.1 dX11_tipWithout_14 rfl (lv_at hl 2 rfl) ?_
        refine lv_iload_n C.1 C.2.1 dX11_tipWithout_15 rfl (lv_at hl 0 rfl) ?_
        refine zgoi (zrunS (As := [.int (zI (a)), .int (zI (k))]) (rest := []) C hE hH hS hl.1 (c_X11_has (l := l)  (a) ha (k) hk) k_RX11_92 ⟨Nat.le_of_ble_eq_true rfl, Nat.le_of_ble_eq_true rfl⟩ rfl (Nat.le_of_ble_eq_true rfl) dX11_tipWithout_16 ⟨Nat.zero_le _, Nat.zero_le _⟩) hS (fun rq Xq Yq Rq H locs hrq hq hH hS => ?_)
        obtain ⟨h91, h92⟩ := hq
        have h93 : Xq = X3 := congrArg (fun z => z.1) h92
        have h94 : Yq = Y := congrArg (fun z => z.2.1) h92
        have h95 : Rq = R := congrArg (fun z => z.2.2) h92
        rw [h93, h94, h95] at hH
        subst h91
        refine zd_ifB_ne C 53 dX11_tipWithout_19 (by decide) (fun c8 => ?_) (fun c8 => ?_)
        · have hF := hF.1 c8
          refine zd_iinc (k := 0) (lv' := [(2, .int (zI (k + 1))), (0, .ref (bs + (i))), (1, .int (zI (a)))]) C hl rfl dX11_tipWithout_53 (by decide) rfl (fun ls hl => ?_)
          refine lv_goto (tgt := 6) C.1 C.2.1 dX11_tipWithout_56 (by decide) ?_
          obtain ⟨o9, hF⟩ := hF
          exact ih2 (k + 1) X3 o9 hF.1 (Nat.lt_of_lt_of_le hF.2 (Nat.le_of_lt_succ hmu2)) _ _ _ hH hS (lv_sub hl [0, 1, 2] rfl)
        · have hF := hF.2 c8
          refine lv_aload_n C.1 C.2.1 dX11_tipWithout_22 rfl (lv_at hl 1 rfl) ?_
          refine zg11_35 C hH (zM_n0 hM) (zM_k0 hM) q_1322 dX11_tipWithout_23 ?_
          refine lv_iload_n C.1 C.2.1 dX11_tipWithout_26 rfl (lv_at hl 0 rfl) ?_
          refine zgoi (zrunS (As := [.int (zI (X3 (i) 35)), .int (zI (k))]) (rest := []) C hE hH hS hl.1 (c_X11_has (l := l)  (X3 (i) 35) (hH.2.2.1 _ _) (k) hk) k_RX11_92 ⟨Nat.le_of_ble_eq_true rfl, Nat.le_of_ble_eq_true rfl⟩ rfl (Nat.le_of_ble_eq_true rfl) dX11_tipWithout_27 ⟨Nat.zero_le _, Nat.zero_le _⟩) hS (fun rq Xq Yq Rq H locs hrq hq hH hS => ?_)
          obtain ⟨h91, h92⟩ := hq
          have h93 : Xq = X3 := congrArg (fun z => z.1) h92
          have h94 : Yq = Y := congrArg (fun z => z.2.1) h92
          have h95 : Rq = R := congrArg (fun z => z.2.2) h92
          rw [h93, h94, h95] at hH
          subst h91
          refine zd_ifB_eq C 53 dX11_tipWithout_30 (by decide) (fun c10 => ?_) (fun c10 => ?_)
          · have hF := hF.1 c10
            refine zd_iinc (k := 0) (lv' := [(2, .int (zI (k + 1))), (0, .ref (bs + (i))), (1, .int (zI (a)))]) C hl rfl dX11_tipWithout_53 (by decide) rfl (fun ls hl => ?_)
            refine lv_goto (tgt := 6) C.1 C.2.1 dX11_tipWithout_56 (by decide) ?_
            obtain ⟨o11, hF⟩ := hF
            exact ih2 (k + 1) X3 o11 hF.1 (Nat.lt_of_lt_of_le hF.2 (Nat.le_of_lt_succ hmu2)) _ _ _ hH hS (lv_sub hl [0, 1, 2] rfl)
          · have hF := hF.2 c10
            refine lv_aload_n C.1 C.2.1 dX11_tipWithout_33 rfl (lv_at hl 1 rfl) ?_
            refine zg11_36 C hH (zM_n0 hM) (zM_k0 hM) q_1323 dX11_tipWithout_34 ?_
            refine lv_aload_n C.1 C.2.1 dX11_tipWithout_37 rfl (lv_at hl 1 rfl) ?_
            refine lv_iload_n C.1 C.2.1 dX11_tipWithout_38 rfl (lv_at hl 0 rfl) ?_
            obtain ⟨o12, hF⟩ := hF
            refine zgoi (zrunV (As := [.int (zI (k))]) (rest := [.int (zI (X3 (i) 36))]) C hE hH hS hl.1 (c_X11_parentOf (l := l) hM (k) hk o12) k_RX11_264 ⟨Nat.le_of_ble_eq_true rfl, Nat.le_of_ble_eq_true rfl⟩ (zM_n0 hM) (zM_k0 hM) rfl rfl rfl (Nat.le_of_ble_eq_true rfl) dX11_tipWithout_39 ⟨Nat.zero_le _, Nat.zero_le _⟩) hS (fun rq Xq Yq Rq H locs hrq hq hH hS => ?_)
            obtain ⟨h91, h92⟩ := hq
            have h93 : Xq = X3 := congrArg (fun z => z.1) h92
            have h94 : Yq = Y := congrArg (fun z => z.2.1) h92
            have h95 : Rq = R := congrArg (fun z => z.2.2) h92
            rw [h93, h94, h95] at hH
            subst h91
            have hr13 := hrq
            have hF := hF hr13
            refine zgoi (zrunS (As := [.int (zI (X3 (i) 36)), .int (zI (mPar X3 i (k)))]) (rest := []) C hE hH hS hl.1 (c_X11_has (l := l)  (X3 (i) 36) (hH.2.2.1 _ _) (mPar X3 i (k)) hr13) k_RX11_92 ⟨Nat.le_of_ble_eq_true rfl, Nat.le_of_ble_eq_true rfl⟩ rfl (Nat.le_of_ble_eq_true rfl) dX11_tipWithout_42 ⟨Nat.zero_le _, Nat.zero_le _⟩) hS (fun rq Xq Yq Rq H locs hrq hq hH hS => ?_)
            obtain ⟨h91, h92⟩ := hq
            have h93 : Xq = X3 := congrArg (fun z => z.1) h92
            have h94 : Yq = Y := congrArg (fun z => z.2.1) h92
            have h95 : Rq = R := congrArg (fun z => z.2.2) h92
            rw [h93, h94, h95] at hH
            subst h91
            refine zd_ifB_eq C 53 dX11_tipWithout_45 (by decide) (fun c14 => ?_) (fun c14 => ?_)
            · have hF := hF.1 c14
              refine zd_iinc (k := 0) (lv' := [(2, .int (zI (k + 1))), (0, .ref (bs + (i))), (1, .int (zI (a)))]) C hl rfl dX11_tipWithout_53 (by decide) rfl (fun ls hl => ?_)
              refine lv_goto (tgt := 6) C.1 C.2.1 dX11_tipWithout_56 (by decide) ?_
              obtain ⟨o15, hF⟩ := hF
              exact ih2 (k + 1) X3 o15 hF.1 (Nat.lt_of_lt_of_le hF.2 (Nat.le_of_lt_succ hmu2)) _ _ _ hH hS (lv_sub hl [0, 1, 2] rfl)
            · have hF := hF.2 c14
              refine lv_aload_n C.1 C.2.1 dX11_tipWithout_48 rfl (lv_at hl 1 rfl) ?_
              refine lv_iload_n C.1 C.2.1 dX11_tipWithout_49 rfl (lv_at hl 0 rfl) ?_
              obtain ⟨o16, hF⟩ := hF
              refine zgov (zrunV (As := [.int (zI (k))]) (rest := []) C hE hH hS hl.1 (c_X11_becomesWhole (l := l) hM (k) hk o16) k_RX11_343 ⟨Nat.le_of_ble_eq_true rfl, Nat.le_of_ble_eq_true rfl⟩ (zM_n0 hM) (zM_k0 hM) rfl rfl rfl (Nat.le_of_ble_eq_true rfl) dX11_tipWithout_50 ⟨Nat.zero_le _, Nat.zero_le _⟩) hS (fun X17 Yq Rq H locs hq hH hS => ?_)
              obtain ⟨h9Y, h9R, hq⟩ := hq
              dsimp only at h9Y h9R
              rw [h9Y, h9R] at hH
              have hF := hF X17 hH.2.2.1 hq
              refine zd_iinc (k := 0) (lv' := [(2, .int (zI (k + 1))), (0, .ref (bs + (i))), (1, .int (zI (a)))]) C hl rfl dX11_tipWithout_53 (by decide) rfl (fun ls hl => ?_)
              refine lv_goto (tgt := 6) C.1 C.2.1 dX11_tipWithout_56 (by decide) ?_
              obtain ⟨o18, hF⟩ := hF
              exact ih2 (k + 1) X17 o18 hF.1 (Nat.lt_of_lt_of_le hF.2 (Nat.le_of_lt_succ hmu2)) _ _ _ hH hS (lv_sub hl [0, 1, 2] rfl)
  exact L2 (((X i 27 - ((1 : Int))).toNat) + 1) ((1 : Int)) X1 (by decide) hI2 (Nat.lt_succ_self _) _ _ _ hH hS (lv_sub hl [0, 1, 2] rfl)
theorem v_X11_tipWithout {X Y : Nat → Int → Int} {R : Nat → Int → Option Nat} {i : Nat} (a : Int) (ha : rI a) (hp : oH X Y i) : F_X11_tipWithout i X Y R a := by
  unfold F_X11_tipWithout
  intro hX hY
  have hW := oH_W hp
  have hp9 := hp
  obtain ⟨⟨hg, ha, hb, hbs⟩, -, hl, h35, -⟩ := hp9
  obtain ⟨n, hn⟩ : ∃ n : Nat, X i 27 = ((n + 1 : Nat) : Int) := ⟨(X i 27).toNat - 1, by omega⟩
  rw [hn] at h35 hbs
  rw [show (((n + 1 : Nat) : Int) - 1).toNat = n by omega] at hbs
  rw [Int.toNat_natCast] at h35
  have hn14 := hbs.1.2.1
  have hP := rP_par hbs.1
  intro X1 r1 e1
  have w0 : mWo X i a 0 = true := woF_0
  refine ⟨⟨1, rfl, by decide, by omega, ⟨fun b h1 h2 => by rw [e1]; unfold bgW; rw [zU_o h2, zU_o h1, zU_o h1], fun s h1 h2 => by rw [e1]; unfold bgW; rw [zU_n (by omega), zU_n (by omega), zU_n (by omega)]⟩, ?_, ?_, ?_, ?_⟩, ?_⟩
  · rw [e1]
    unfold bgW
    rw [zU_n (by omega), zU_n (by omega), zU_s]
    show 1 = if mWo X i a 0 then zOr 0 (zShl 1 0) else 0
    rw [w0]
    decide +kernel
  · rw [e1]
    unfold bgW
    rw [zU_n (by omega), zU_s]
    decide
  · intro j hj _
    have b37 : bgW X i i 37 = 1 := by
      unfold bgW
      rw [zU_n (by omega), zU_s]
    have b17 : bgW X i (i + 17) ((0 : Nat) : Int) = 0 := by
      unfold bgW
      exact zU_s
    rw [show j = 0 by omega, e1, b37, b17]
    decide
  · intro j j' h1 h2
    omega
  · rintro k X7 rk r7 ⟨q, rfl, hq1, hq2, t7, k7⟩
    have ts := tW_t t7
    have e27 : X7 i 27 = X i 27 := ts.2.2.2.2.2.1
    rw [e27]
    refine ⟨fun h => ?_, fun h => ?_⟩
    · have eq : (X i 27).toNat = q := by omega
      refine ⟨oW_t ts rfl hW, fun r9 hr9 Y9 hy9 hr => ?_⟩
      rw [eq]
      refine ⟨?_, t7, k7, hr.2⟩
      rw [hr.1, tip_eq hp t7 (by rw [eq]; exact k7) w0]
    · have hp7 := hP q hq1 (by omega)
      have ep : mPar X7 i q = rP X i q := by rw [mPar_t ts, rP_c hbs.1 hq1 (by omega)]
      have e35 : X7 i 35 = bS (sdf X i) (n + 1) := (t7.2 _ (by decide) (by decide)).trans h35
      have es := woF_s (snd := sdf X i) (s := fun k => mHas a k) hp7
      have es : mWo X i a q = (!mHas a q && sdf X i q && mWo X i a (rP X i q)) := es
      have hs : mHas (X7 i 35) q = sdf X i q := by rw [e35]; exact bS_has _ (by omega) (by omega)
      have hwp : mHas (X7 i 36) (rP X i q) = mWo X i a (rP X i q) := by rw [k7.1]; exact bS_has _ (by omega) hp7
      have no : mWo X i a q = false → (rI ((q : Int) + 1)) ∧ (∃ z : Nat, (q : Int) + 1 = z ∧ 1 ≤ z ∧ (q : Int) + 1 ≤ X i 27 ∧ tW X X7 i ∧ wK X7 i (mWo X i a) z) ∧ ((X i 27 - ((q : Int) + 1)).toNat < (X i 27 - q).toNat) := fun e => by
        refine ⟨⟨by omega, by omega⟩, ⟨q + 1, by omega, by omega, by omega, t7, ?_, by have := k7.2.1; omega, fun j hj hw => ?_, fun j j' h1 h2 w1 w2 => ?_⟩, by omega⟩
        · rw [k7.1]
          show _ = if mWo X i a q then _ else _
          rw [e]
          rfl
        · exact k7.2.2.1 j (by have : j ≠ q := fun g => by rw [g, e] at hw; cases hw
                               omega) hw
        · exact k7.2.2.2 j j' h1 (by have : j' ≠ q := fun g => by rw [g, e] at w2; cases w2
                                     omega) w1 w2
      rw [ep, hs, hwp]
      refine ⟨fun c1 => no (by rw [es, c1]; rfl), fun c1 => ?_⟩
      refine ⟨fun c2 => no (by rw [es, c2, Bool.and_false, Bool.false_and]), fun c2 => ⟨⟨oC_t ts hbs.1.1, by omega, by omega⟩, fun _ => ⟨fun c3 => no (by rw [es, c3, Bool.and_false]), fun c3 => ?_⟩⟩⟩
      have e : mWo X i a q = true := by rw [es, c1, c2, c3]; rfl
      have k37 := k7.2.1
      refine ⟨⟨by omega, by omega, by omega, by omega⟩, fun X11 r11 e11 => ⟨⟨by omega, by omega⟩, ⟨q + 1, by omega, by omega, by omega, ⟨fun b h1 h2 => by rw [e11]; unfold bcW; rw [zU_o h1, zU_o h2, zU_o h1]; exact t7.1 b h1 h2, fun s h1 h2 => by rw [e11]; unfold bcW; rw [zU_n (by omega), zU_n (by omega), zU_n (by omega)]; exact t7.2 s h1 h2⟩, ?_⟩, by omega⟩⟩
      have x36 : X11 i 36 = zOr (X7 i 36) (zShl 1 q) := by
        rw [e11]
        unfold bcW
        rw [zU_n (by omega), zU_n (by omega), zU_s]
      have x37 : X11 i 37 = X7 i 37 + 1 := by
        rw [e11]
        unfold bcW
        rw [zU_s]
      have x17 : ∀ j : Nat, X11 (i + 17) j = if j = q then X7 i 37 else X7 (i + 17) j := fun j => by
        rw [e11]
        unfold bcW
        rw [zU_o (by omega)]
        by_cases g : j = q
        · rw [if_pos g, g, zU_s]
        · rw [if_neg g, zU_n (by omega), zU_o (by omega)]
      refine ⟨?_, by omega, fun j hj hw => ?_, fun j j' h1 h2 w1 w2 => ?_⟩
      · rw [x36, k7.1]
        show _ = if mWo X i a q then _ else _
        rw [e]
        rfl
      · rw [x17, x37]
        by_cases g : j = q
        · rw [if_pos g]
          omega
        · rw [if_neg g]
          have := k7.2.2.1 j (by omega) hw
          omega
      · rw [x17, x17, if_neg (by omega)]
        by_cases g : j' = q
        · rw [if_pos g]
          exact (k7.2.2.1 j (by omega) w1).2
        · rw [if_neg g]
          exact k7.2.2.2 j j' h1 (by omega) w1 w2
theorem c_X11_tipWithout {l : Launch} {D : va_G} {cy : Nat → ClassId} {bs N : Nat} {sa : Nat → Nat} {kd len : Nat → Nat} {X Y : Nat → Int → Int} {R : Nat → Int → Option Nat} {i : Nat} (hM : zM N kd len R i) (a : Int) (ha : rI a) (hp : oH X Y i) : Met l yX11_tipWithout (.code yX11_tipWithout cX11_tipWithout 3 (some .int) :: zTB) (zRm 4 89) (zPc D cy bs sa N kd len X Y R [.ref (bs + (i)), .int (zI (a))]) (zQi D cy bs N kd len (fun r st => st.2.2 = R ∧ (r = ((rTip X i (mWo X i (a)) : Nat) : Int) ∧ tW X (st.1) i ∧ wK (st.1) i (mWo X i (a)) (X i 27).toNat ∧ ∀ a, a ≠ i + 18 → (st.2.1) a = Y a))) 0 0 (zA bs) := w_X11_tipWithout hM a ha (v_X11_tipWithout a ha hp)
