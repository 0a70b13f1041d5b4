/-- what is told, and which net and blocks are looked at, is the same -/
def tS (X X1 : Nat → Int → Int) (i : Nat) : Prop := X1 (i + 6) = X (i + 6) ∧ X1 (i + 7) = X (i + 7) ∧ X1 i 24 = X i 24 ∧ X1 i 25 = X i 25 ∧ X1 i 26 = X i 26 ∧ X1 i 27 = X i 27 ∧ X1 i 30 = X i 30
theorem tS_rf {X : Nat → Int → Int} {i : Nat} : tS X X i := ⟨rfl, rfl, rfl, rfl, rfl, rfl, rfl⟩
theorem tS.trans {X X1 X2 : Nat → Int → Int} {i : Nat} (h : tS X X1 i) (g : tS X1 X2 i) : tS X X2 i :=
  ⟨g.1.trans h.1, g.2.1.trans h.2.1, g.2.2.1.trans h.2.2.1, g.2.2.2.1.trans h.2.2.2.1, g.2.2.2.2.1.trans h.2.2.2.2.1, g.2.2.2.2.2.1.trans h.2.2.2.2.2.1, g.2.2.2.2.2.2.trans h.2.2.2.2.2.2⟩
theorem tS_of {X X1 : Nat → Int → Int} {i : Nat} (h : X1 (i + 6) = X (i + 6)) (h2 : X1 (i + 7) = X (i + 7)) (h3 : X1 i = X i) : tS X X1 i := ⟨h, h2, by rw [h3], by rw [h3], by rw [h3], by rw [h3], by rw [h3]⟩
section TS
variable {X X1 : Nat → Int → Int} {i : Nat}
theorem mC_t (h : tS X X1 i) (k w : Int) : mC X1 i k w = mC X i k w := by
  unfold mC
  rw [h.2.1, h.2.2.2.1]
theorem mG_t (h : tS X X1 i) (t : Int) : mG X1 i t = mG X i t := by
  unfold mG
  rw [h.1, h.2.2.1]
theorem mPar_t (h : tS X X1 i) (k : Int) : mPar X1 i k = mPar X i k := by
  unfold mPar
  rw [mC_t h]
theorem mTim_t (h : tS X X1 i) (k : Int) : mTim X1 i k = mTim X i k := by
  unfold mTim
  rw [mC_t h]
theorem rP_t (h : tS X X1 i) : rP X1 i = rP X i := funext fun k => by
  unfold rP
  rw [mC_t h]
theorem rT_t (h : tS X X1 i) : rT X1 i = rT X i := funext fun k => mTim_t h _
theorem rF_t (h : tS X X1 i) (k : Int) : rF X1 i k = rF X i k := funext fun j => mC_t h _ _
theorem rO_t (h : tS X X1 i) (k : Int) : rO X1 i k = rO X i k := funext fun j => mC_t h _ _
theorem rM_t (h : tS X X1 i) (k : Int) : rM X1 i k = rM X i k := funext fun j => mC_t h _ _
theorem rS_t (h : tS X X1 i) : rS X1 i = rS X i := by
  unfold rS
  simp only [rP_t h, rT_t h, mC_t h, mG_t h, rF_t h, rO_t h, rM_t h, h.2.2.2.2.1]
theorem rW_t (h : tS X X1 i) : rW X1 i = rW X i := by
  unfold rW
  rw [rP_t h, rT_t h, mG_t h, mG_t h, h.2.2.2.2.2.2]
theorem rG_t (h : tS X X1 i) : rG X1 i = rG X i := by
  unfold rG
  rw [rP_t h, rT_t h, mG_t h, mG_t h, h.2.2.2.2.2.2]
theorem oC_t (h : tS X X1 i) (g : oC X i) : oC X1 i := by
  show 0 ≤ X1 i 25 ∧ X1 i 25 ≤ 1
  rw [h.2.2.2.1]
  exact g
theorem oN_t (h : tS X X1 i) (g : oN X i) : oN X1 i := by
  show 0 ≤ X1 i 24 ∧ X1 i 24 ≤ 1
  rw [h.2.2.1]
  exact g
theorem oB_t (h : tS X X1 i) {n : Int} (g : oB X i n) : oB X1 i n := ⟨oC_t h g.1, g.2.1, fun k h1 h2 => by rw [mC_t h]; exact g.2.2 k h1 h2⟩
theorem oT_t (h : tS X X1 i) {n : Int} (g : oT X i n) : oT X1 i n := fun k h1 h2 => by rw [mC_t h]; exact g k h1 h2
theorem oP_t (h : tS X X1 i) {k : Int} (g : oP X i k) : oP X1 i k := by
  unfold oP
  rw [mC_t h, rF_t h, rO_t h, rM_t h]
  exact g
theorem oBs_t (h : tS X X1 i) {n : Nat} (g : oBs X i n) : oBs X1 i n := ⟨oB_t h g.1, oT_t h g.2.1, fun k h1 h2 => ⟨oP_t h (g.2.2 k h1 h2).1, by rw [mC_t h]; exact (g.2.2 k h1 h2).2⟩⟩
theorem oA_t (h : tS X X1 i) (g : oA X i) : oA X1 i := by
  refine ⟨by rw [h.2.2.2.2.1]; exact g.1, oN_t h g.2.1, by rw [mG_t h]; exact g.2.2.1, fun a a1 a2 => ?_⟩
  show 0 ≤ mG X1 i (7 + a) ∧ mG X1 i (7 + a) ≤ 99
  rw [mG_t h]
  exact g.2.2.2 a a1 a2
theorem oG_t (h : tS X X1 i) (g : oG X i) : oG X1 i := ⟨oN_t h g.1, by rw [h.2.2.2.2.2.2]; exact g.2.1, by rw [mG_t h]; exact g.2.2.1, by rw [mG_t h]; exact g.2.2.2⟩
end TS
/-- what is sound, and the ledgers, laid for all below k -/
def sdf (X : Nat → Int → Int) (i : Nat) : Nat → Bool := fun j => (rS X i j).isSome
def lS (X X1 : Nat → Int → Int) (i k : Nat) : Prop := (∀ a, a ≠ i → a ≠ i + 16 → X1 a = X a) ∧ (∀ s, s ≠ 35 → X1 i s = X i s) ∧ X1 i 35 = bS (sdf X i) k ∧ ∀ j : Nat, j < k → ∀ M, rS X i j = some M → lM X1 i j M
theorem lS_t {X X1 : Nat → Int → Int} {i k : Nat} (h : lS X X1 i k) : tS X X1 i := ⟨h.1 _ (by omega) (by omega), h.1 _ (by omega) (by omega), h.2.1 _ (by decide), h.2.1 _ (by decide), h.2.1 _ (by decide), h.2.1 _ (by decide), h.2.1 _ (by decide)⟩
abbrev cX11_laySound : ByteArray := prog_13_method_50_code
def yX11_laySound : MethodName := ⟨RX11, "laySound", "()V"⟩
theorem dX11_laySound_0 : decode cX11_laySound 0 = .ok (.aload_n 0, 1) := by decide +kernel
theorem dX11_laySound_1 : decode cX11_laySound 1 = .ok (.iconst 1, 1) := by decide +kernel
theorem dX11_laySound_2 : decode cX11_laySound 2 = .ok (.putfield 292, 3) := by decide +kernel
theorem dX11_laySound_5 : decode cX11_laySound 5 = .ok (.iconst 0, 1) := by decide +kernel
theorem dX11_laySound_6 : decode cX11_laySound 6 = .ok (.istore_n 1, 1) := by decide +kernel
theorem dX11_laySound_7 : decode cX11_laySound 7 = .ok (.iload_n 1, 1) := by decide +kernel
theorem dX11_laySound_8 : decode cX11_laySound 8 = .ok (.bipush 6, 2) := by decide +kernel
theorem dX11_laySound_10 : decode cX11_laySound 10 = .ok (.if_icmp .ge 23, 3) := by decide +kernel
theorem dX11_laySound_13 : decode cX11_laySound 13 = .ok (.aload_n 0, 1) := by decide +kernel
theorem dX11_laySound_14 : decode cX11_laySound 14 = .ok (.getfield 57, 3) := by decide +kernel
theorem dX11_laySound_17 : decode cX11_laySound 17 = .ok (.iload_n 1, 1) := by decide +kernel
theorem dX11_laySound_18 : decode cX11_laySound 18 = .ok (.aload_n 0, 1) := by decide +kernel
theorem dX11_laySound_19 : decode cX11_laySound 19 = .ok (.bipush 7, 2) := by decide +kernel
theorem dX11_laySound_21 : decode cX11_laySound 21 = .ok (.iload_n 1, 1) := by decide +kernel
theorem dX11_laySound_22 : decode cX11_laySound 22 = .ok (.iadd, 1) := by decide +kernel
theorem dX11_laySound_23 : decode cX11_laySound 23 = .ok (.invokevirtual 280, 3) := by decide +kernel
theorem dX11_laySound_26 : decode cX11_laySound 26 = .ok (.iastore, 1) := by decide +kernel
theorem dX11_laySound_27 : decode cX11_laySound 27 = .ok (.iinc 1 1, 3) := by decide +kernel
theorem dX11_laySound_30 : decode cX11_laySound 30 = .ok (.goto (-23), 3) := by decide +kernel
theorem dX11_laySound_33 : decode cX11_laySound 33 = .ok (.iconst 1, 1) := by decide +kernel
theorem dX11_laySound_34 : decode cX11_laySound 34 = .ok (.istore_n 1, 1) := by decide +kernel
theorem dX11_laySound_35 : decode cX11_laySound 35 = .ok (.iload_n 1, 1) := by decide +kernel
theorem dX11_laySound_36 : decode cX11_laySound 36 = .ok (.aload_n 0, 1) := by decide +kernel
theorem dX11_laySound_37 : decode cX11_laySound 37 = .ok (.getfield 255, 3) := by decide +kernel
theorem dX11_laySound_40 : decode cX11_laySound 40 = .ok (.if_icmp .ge 33, 3) := by decide +kernel
theorem dX11_laySound_43 : decode cX11_laySound 43 = .ok (.aload_n 0, 1) := by decide +kernel
theorem dX11_laySound_44 : decode cX11_laySound 44 = .ok (.dup, 1) := by decide +kernel
theorem dX11_laySound_45 : decode cX11_laySound 45 = .ok (.getfield 292, 3) := by decide +kernel
theorem dX11_laySound_48 : decode cX11_laySound 48 = .ok (.aload_n 0, 1) := by decide +kernel
theorem dX11_laySound_49 : decode cX11_laySound 49 = .ok (.iload_n 1, 1) := by decide +kernel
theorem dX11_laySound_50 : decode cX11_laySound 50 = .ok (.invokevirtual 298, 3) := by decide +kernel
theorem dX11_laySound_53 : decode cX11_laySound 53 = .ok (.ifCond .eq 9, 3) := by decide +kernel
theorem dX11_laySound_56 : decode cX11_laySound 56 = .ok (.iconst 1, 1) := by decide +kernel
theorem dX11_laySound_57 : decode cX11_laySound 57 = .ok (.iload_n 1, 1) := by decide +kernel
theorem dX11_laySound_58 : decode cX11_laySound 58 = .ok (.ishl, 1) := by decide +kernel
theorem dX11_laySound_59 : decode cX11_laySound 59 = .ok (.goto 4, 3) := by decide +kernel
theorem dX11_laySound_62 : decode cX11_laySound 62 = .ok (.iconst 0, 1) := by decide +kernel
theorem dX11_laySound_63 : decode cX11_laySound 63 = .ok (.ior, 1) := by decide +kernel
theorem dX11_laySound_64 : decode cX11_laySound 64 = .ok (.putfield 292, 3) := by decide +kernel
theorem dX11_laySound_67 : decode cX11_laySound 67 = .ok (.iinc 1 1, 3) := by decide +kernel
theorem dX11_laySound_70 : decode cX11_laySound 70 = .ok (.goto (-35), 3) := by decide +kernel
theorem dX11_laySound_73 : decode cX11_laySound 73 = .ok (.return_, 1) := by decide +kernel
theorem q_1697 : Cond.methodLink RX11 298 yX11_becomesSound ∈ zTB := zmem 1697 (by decide +kernel) rfl
theorem q_1699 : Cond.instanceMethod yX11_becomesSound ∈ zTB := zmem 1699 (by decide +kernel) rfl
theorem q_72 : Cond.selects RX11 yX11_becomesSound yX11_becomesSound ∈ zTB := zmem 72 (by decide +kernel) rfl
theorem q_1700 : Cond.code yX11_becomesSound cX11_becomesSound 4 (some .boolean) ∈ zTB := zmem 1700 (by decide +kernel) rfl
theorem k_RX11_298 : zLv RX11 298 RX11 yX11_becomesSound cX11_becomesSound 4 (some .boolean) 1 := ⟨⟨q_1697, q_1699, q_72, q_140, q_1700⟩, rfl, ⟨by decide, by decide⟩, by decide +kernel⟩
def F_X11_laySound (i : Nat) (X Y : Nat → Int → Int) (R : Nat → Int → Option Nat)  : Prop := (∀ i j, rI (X i j)) → (∀ i j, rL (Y i j)) → ∀ X1 : Nat → Int → Int, X1 = zU X (i) 35 (1) → (∀ i j, rI (X1 i j)) → ((∃ q : Nat, (0 : Int) = q ∧ (0 : Int) ≤ 6 ∧ (∀ a, a ≠ i → a ≠ i + 16 → X1 a = X a) ∧ (∀ s, s ≠ 35 → X1 i s = X i s) ∧ X1 i 35 = 1 ∧ ∀ b, 0 ≤ b → b < (0 : Int) → X1 (i + 16) b = mG X i (7 + b)) ∧ (∀ (j : Int) (X3 : Nat → Int → Int), rI j → (∀ i j, rI (X3 i j)) → (∃ q : Nat, j = q ∧ j ≤ 6 ∧ (∀ a, a ≠ i → a ≠ i + 16 → X3 a = X a) ∧ (∀ s, s ≠ 35 → X3 i s = X i s) ∧ X3 i 35 = 1 ∧ ∀ b, 0 ≤ b → b < j → X3 (i + 16) b = mG X i (7 + b)) → (((6 ≤ j) → ((∃ q : Nat, (1 : Int) = q ∧ 1 ≤ q ∧ (1 : Int) ≤ X i 27 ∧ lS X X3 i q) ∧ (∀ (k : Int) (X6 : Nat → Int → Int), rI k → (∀ i j, rI (X6 i j)) → (∃ q : Nat, k = q ∧ 1 ≤ q ∧ k ≤ X i 27 ∧ lS X X6 i q) → ((((X6 (i) 27) ≤ k) → (lS X (X6) i (X i 27).toNat)) ∧ ((¬ ((X6 (i) 27) ≤ k)) → ((∃ q : Nat, k = q ∧ bsP X6 i q) ∧ (∀ r10 : Bool, ∀ X9 : Nat → Int → Int, (∀ i j, rI (X9 i j)) → (lL X6 (X9) i (k) ∧ r10 = (rS X6 i (k).toNat).isSome ∧ ∀ M, rS X6 i (k).toNat = some M → lM (X9) i (k) M) → (((r10 = false) → (∀ X12 : Nat → Int → Int, X12 = zU X9 (i) 35 (zOr (X6 (i) 35) (0)) → (∀ i j, rI (X12 i j)) → ((rI (k + 1)) ∧ (∃ q : Nat, k + 1 = q ∧ 1 ≤ q ∧ k + 1 ≤ X i 27 ∧ lS X X12 i q) ∧ (((X i 27 - (k + 1)).toNat) < ((X i 27 - (k)).toNat))))) ∧ ((r10 = true) → (∀ X14 : Nat → Int → Int, X14 = zU X9 (i) 35 (zOr (X6 (i) 35) (zShl (1) (k))) → (∀ i j, rI (X14 i j)) → ((rI (k + 1)) ∧ (∃ q : Nat, k + 1 = q ∧ 1 ≤ q ∧ k + 1 ≤ X i 27 ∧ lS X X14 i q) ∧ (((X i 27 - (k + 1)).toNat) < ((X i 27 - (k)).toNat))))))))))))) ∧ ((¬ (6 ≤ j)) → ((rI (7 + j)) ∧ ((oN X3 i ∧ 0 ≤ 7 + j ∧ 7 + j ≤ 12) ∧ (rI (mG X3 i (7 + j)) → ((0 ≤ j ∧ j < 90) ∧ (∀ X20 : Nat → Int → Int, X20 = zU X3 (i + 16) (j) (mG X3 i (7 + j)) → (∀ i j, rI (X20 i j)) → ((rI (j + 1)) ∧ (∃ q : Nat, j + 1 = q ∧ j + 1 ≤ 6 ∧ (∀ a, a ≠ i → a ≠ i + 16 → X20 a = X a) ∧ (∀ s, s ≠ 35 → X20 i s = X i s) ∧ X20 i 35 = 1 ∧ ∀ b, 0 ≤ b → b < j + 1 → X20 (i + 16) b = mG X i (7 + b)) ∧ (((6 - (j + 1)).toNat) < ((6 - (j)).toNat))))))))))))
set_option maxHeartbeats 4000000 in
set_option maxRecDepth 100000 in
theorem w_X11_laySound {l : Launch} {D : va_G} {cy : Nat → ClassId} {bs N : Nat} {sa : Nat → Nat} {kd len : Nat → Nat} {X Y : Nat → Int → Int} {R : Nat → Int → Option Nat} {i : Nat} (hM : zM N kd len R i)  (hF : F_X11_laySound i X Y R ) : Met l yX11_laySound (.code yX11_laySound cX11_laySound 2 none :: zTB) (zRm 4 91) (zPc D cy bs sa N kd len X Y R [.ref (bs + (i))]) (zQv D cy bs N kd len (fun st => st.2.1 = Y ∧ st.2.2 = R ∧ (lS X (st.1) i (X i 27).toNat))) 0 0 (zA bs) := by
  refine zstart (by decide) (Nat.le_of_ble_eq_true rfl) ?_
  intro p e s m args below meth c ls C hE hH hr hlk hnm hl hargs
  have hF := hF hH.2.2.1 hH.2.2.2
  have hS : va_S (zA bs) s.heap s.heap [] := va_S.rf
  have hl : lv_has ls 2 [(0, .ref (bs + (i)))] := hl
  refine lv_aload_n C.1 C.2.1 dX11_laySound_0 rfl (lv_at hl 0 rfl) ?_
  refine zd_iconst C dX11_laySound_1 ?_
  refine zp11_35 C hH hS (zM_n0 hM) (zM_k0 hM) q_1322 (by decide) dX11_laySound_2 (fun H locs hH hS => ?_)
  obtain ⟨X1, eX1⟩ : ∃ z, z = zU X (i) 35 (1) := ⟨_, rfl⟩
  rw [← eX1] at hH
  have hF := hF X1 eX1 hH.2.2.1
  refine zd_iconst C dX11_laySound_5 ?_
  refine lv_istore_n (lv' := [(1, .int (zI (0))), (0, .ref (bs + (i)))]) C.1 C.2.1 dX11_laySound_6 rfl hl (by decide) rfl (fun ls hl => ?_)
  obtain ⟨hI2, hF⟩ := hF
  have L2 : ∀ (fu : Nat) (j : Int) (X3 : Nat → Int → Int), rI j → (∃ q : Nat, j = q ∧ j ≤ 6 ∧ (∀ a, a ≠ i → a ≠ i + 16 → X3 a = X a) ∧ (∀ s, s ≠ 35 → X3 i s = X i s) ∧ X3 i 35 = 1 ∧ ∀ b, 0 ≤ b → b < j → X3 (i + 16) b = mG X i (7 + b)) → ((6 - (j)).toNat) < fu → ∀ (H : Heap) (locs : List Loc) (ls : Array Slot), zH D cy bs N kd len X3 Y R H → va_S (zA bs) s.heap H locs → lv_has ls 2 [(1, .int (zI (j))), (0, .ref (bs + (i)))] → W p l e (zRm 4 91) s m args below meth c H locs 0 0 (MQ below (zQv D cy bs N kd len (fun st => st.2.1 = Y ∧ st.2.2 = R ∧ (lS X (st.1) i (X i 27).toNat))) args s 0 0 (zA bs)) (F0 m 7 ls []) := by
    intro fu
    induction fu with
    | zero => intro j X3 _ _ hmu; exact absurd hmu (Nat.not_lt_zero _)
    | succ fu ih2 =>
      intro j X3 hj hI hmu2 H locs ls hH hS hl
      have hF := hF j X3 hj hH.2.2.1 hI
      refine lv_iload_n C.1 C.2.1 dX11_laySound_7 rfl (lv_at hl 0 rfl) ?_
      refine zd_bipush C (by decide) dX11_laySound_8 ?_
      refine zd_icmp_ge C hj (by decide) 33 dX11_laySound_10 (by decide) (fun c4 => ?_) (fun c4 => ?_)
      · have hF := hF.1 c4
        refine zd_iconst C dX11_laySound_33 ?_
        refine lv_istore_n (lv' := [(1, .int (zI (1))), (0, .ref (bs + (i)))]) C.1 C.2.1 dX11_laySound_34 rfl hl (by decide) rfl (fun ls hl => ?_)
        obtain ⟨hI5, hF⟩ := hF
        have L5 : ∀ (fu : Nat) (k : Int) (X6 : Nat → Int → Int), rI k → (∃ q : Nat, k = q ∧ 1 ≤ q ∧ k ≤ X i 27 ∧ lS X X6 i q) → ((X i 27 - (k)).toNat) < fu → ∀ (H : Heap) (locs : List Loc) (ls : Array Slot), zH D cy bs N kd len X6 Y R H → va_S (zA bs) s.heap H locs → lv_has ls 2 [(1, .int (zI (k))), (0, .ref (bs + (i)))] → W p l e (zRm 4 91) s m args below meth c H locs 0 0 (MQ below (zQv D cy bs N kd len (fun st => st.2.1 = Y ∧ st.2.2 = R ∧ (lS X (st.1) i (X i 27).toNat))) args s 0 0 (zA bs)) (F0 m 35 ls []) := by
          intro fu
          induction fu with
          | zero => intro k X6 _ _ hmu; exact absurd hmu (Nat.not_lt_zero _)
          | succ fu ih5 =>
            intro k X6 hk hI hmu5 H locs ls hH hS hl
            have hF := hF k X6 hk hH.2.2.1 hI
            refine lv_iload_n C.1 C.2.1 dX11_laySound_35 rfl (lv_at hl 0 rfl) ?_
            refine lv_aload_n C.1 C.2.1 dX11_laySound_36 rfl (lv_at hl 1 rfl) ?_
            refine zg11_27 C hH (zM_n0 hM) (zM_k0 hM) q_1314 dX11_laySound_37 ?_
            refine zd_icmp_ge C hk (hH.2.2.1 _ _) 73 dX11_laySound_40 (by decide) (fun c7 => ?_) (fun c7 => ?_)
            · have hF := hF.1 c7
              exact zd_vret C hr hlk hH hS (⟨rfl, rfl, hF⟩) dX11_laySound_73
            · have hF := hF.2 c7
              refine lv_aload_n C.1 C.2.1 dX11_laySound_43 rfl (lv_at hl 1 rfl) ?_
              refine lv_dup C.1 C.2.1 dX11_laySound_44 rfl ?_
              refine zg11_35 C hH (zM_n0 hM) (zM_k0 hM) q_1322 dX11_laySound_45 ?_
              refine lv_aload_n C.1 C.2.1 dX11_laySound_48 rfl (lv_at hl 1 rfl) ?_
              refine lv_iload_n C.1 C.2.1 dX11_laySound_49 rfl (lv_at hl 0 rfl) ?_
              obtain ⟨o8, hF⟩ := hF
              have gg1 := hH.2.2.1
              refine zgoi (zrunV (As := [.int (zI (k))]) (rest := [.int (zI (X6 (i) 35)), .ref (bs + (i))]) C hE hH hS hl.1 (c_X11_becomesSound (l := l) hM (k) hk o8) k_RX11_298 ⟨Nat.le_of_ble_eq_true rfl, Nat.le_of_ble_eq_true rfl⟩ (zM_n0 hM) (zM_k0 hM) rfl rfl rfl (Nat.le_of_ble_eq_true rfl) dX11_laySound_50 ⟨Nat.zero_le _, Nat.zero_le _⟩) hS (fun rq X9 Yq Rq H locs hrq hq hH hS => ?_)
              obtain ⟨h9Y, h9R, hq⟩ := hq
              dsimp only at h9Y h9R
              rw [h9Y, h9R] at hH
              obtain ⟨r10, h91, hq⟩ := hq
              subst h91
              have hF := hF r10 X9 hH.2.2.1 hq
              refine zd_ifB_eq C 62 dX11_laySound_53 (by decide) (fun c11 => ?_) (fun c11 => ?_)
              · have hF := hF.1 c11
                refine zd_iconst C dX11_laySound_62 ?_
                refine zd_ior C dX11_laySound_63 ?_
                refine zp11_35 C hH hS (zM_n0 hM) (zM_k0 hM) q_1322 (zI_rg _) dX11_laySound_64 (fun H locs hH hS => ?_)
                obtain ⟨X12, eX12⟩ : ∃ z, z = zU X9 (i) 35 (zOr (X6 (i) 35) (0)) := ⟨_, rfl⟩
                rw [← eX12] at hH
                have hF := hF X12 eX12 hH.2.2.1
                refine zd_iinc (k := 0) (lv' := [(1, .int (zI (k + 1))), (0, .ref (bs + (i)))]) C hl rfl dX11_laySound_67 (by decide) rfl (fun ls hl => ?_)
                refine lv_goto (tgt := 35) C.1 C.2.1 dX11_laySound_70 (by decide) ?_
                obtain ⟨o13, hF⟩ := hF
                exact ih5 (k + 1) X12 o13 hF.1 (Nat.lt_of_lt_of_le hF.2 (Nat.le_of_lt_succ hmu5)) _ _ _ hH hS (lv_sub hl [0, 1] rfl)
              · have hF := hF.2 c11
                refine zd_iconst C dX11_laySound_56 ?_
                refine lv_iload_n C.1 C.2.1 dX11_laySound_57 rfl (lv_at hl 0 rfl) ?_
                refine zd_ishl C dX11_laySound_58 ?_
                refine lv_goto (tgt := 63) C.1 C.2.1 dX11_laySound_59 (by decide) ?_
                refine zd_ior C dX11_laySound_63 ?_
                refine zp11_35 C hH hS (zM_n0 hM) (zM_k0 hM) q_1322 (zI_rg _) dX11_laySound_64 (fun H locs hH hS => ?_)
                obtain ⟨X14, eX14⟩ : ∃ z, z = zU X9 (i) 35 (zOr (X6 (i) 35) (zShl (1) (k))) := ⟨_, rfl⟩
                rw [← eX14] at hH
                have hF := hF X14 eX14 hH.2.2.1
                refine zd_iinc (k := 0) (lv' := [(1, .int (zI (k + 1))), (0, .ref (bs + (i)))]) C hl rfl dX11_laySound_67 (by decide) rfl (fun ls hl => ?_)
                refine lv_goto (tgt := 35) C.1 C.2.1 dX11_laySound_70 (by decide) ?_
                obtain ⟨o15, hF⟩ := hF
                exact ih5 (k + 1) X14 o15 hF.1 (Nat.lt_of_lt_of_le hF.2 (Nat.le_of_lt_succ hmu5)) _ _ _ hH hS (lv_sub hl [0, 1] rfl)
        exact L5 (((X i 27 - ((1 : Int))).toNat) + 1) ((1 : Int)) X3 (by decide) hI5 (Nat.lt_succ_self _) _ _ _ hH hS (lv_sub hl [0, 1] rfl)
      · have hF := hF.2 c4
        refine lv_aload_n C.1 C.2.1 dX11_laySound_13 rfl (lv_at hl 1 rfl) ?_
        refine zg11_34 C hH (zM_n0 hM) (zM_k0 hM) q_1321 (zM_r16 hM) dX11_laySound_14 ?_
        refine lv_iload_n C.1 C.2.1 dX11_laySound_17 rfl (lv_at hl 0 rfl) ?_
        refine lv_aload_n C.1 C.2.1 dX11_laySound_18 rfl (lv_at hl 1 rfl) ?_
        refine zd_bipush C (by decide) dX11_laySound_19 ?_
        refine lv_iload_n C.1 C.2.1 dX11_laySound_21 rfl (lv_at hl 0 rfl) ?_
        refine zd_iadd C dX11_laySound_22 ?_
        obtain ⟨o16, hF⟩ := hF
        obtain ⟨o17, hF⟩ := hF
        refine zgoi (zrunV (As := [.int (zI (7 + j))]) (rest := [.int (zI (j)), .ref (bs + (i + 16))]) C hE hH hS hl.1 (c_X11_ofNet (l := l) hM (7 + j) o16 o17) k_RX11_280 ⟨Nat.le_of_ble_eq_true rfl, Nat.le_of_ble_eq_true rfl⟩ (zM_n0 hM) (zM_k0 hM) rfl rfl rfl (Nat.le_of_ble_eq_true rfl) dX11_laySound_23 ⟨Nat.zero_le _, Nat.zero_le _⟩) hS (fun rq Xq Yq Rq H locs hrq hq hH hS => ?_)
        obtain ⟨h91, h92⟩ := hq
        have h93 : Xq = X3 := congrArg (fun z => z.1) h92
        have h94 : Yq = Y := congrArg (fun z => z.2.1) h92
        have h95 : Rq = R := congrArg (fun z => z.2.2) h92
        rw [h93, h94, h95] at hH
        subst h91
        have hr18 := hrq
        have hF := hF hr18
        obtain ⟨o19, hF⟩ := hF
        refine zd_iast C hH hS (zM_n16 hM) (zM_k16 hM) o19.1 (by rw [zM_l16 hM]; exact o19.2) (by rw [zM_l16 hM]; decide) hr18 dX11_laySound_26 (fun H locs hH hS => ?_)
        obtain ⟨X20, eX20⟩ : ∃ z, z = zU X3 (i + 16) (j) (mG X3 i (7 + j)) := ⟨_, rfl⟩
        rw [← eX20] at hH
        have hF := hF X20 eX20 hH.2.2.1
        refine zd_iinc (k := 0) (lv' := [(1, .int (zI (j + 1))), (0, .ref (bs + (i)))]) C hl rfl dX11_laySound_27 (by decide) rfl (fun ls hl => ?_)
        refine lv_goto (tgt := 7) C.1 C.2.1 dX11_laySound_30 (by decide) ?_
        obtain ⟨o21, hF⟩ := hF
        exact ih2 (j + 1) X20 o21 hF.1 (Nat.lt_of_lt_of_le hF.2 (Nat.le_of_lt_succ hmu2)) _ _ _ hH hS (lv_sub hl [0, 1] rfl)
  exact L2 (((6 - ((0 : Int))).toNat) + 1) ((0 : Int)) X1 (by decide) hI2 (Nat.lt_succ_self _) _ _ _ hH hS (lv_sub hl [0, 1] rfl)
theorem v_X11_laySound {X Y : Nat → Int → Int} {R : Nat → Int → Option Nat} {i : Nat}  (hp : oA X i ∧ 1 ≤ X i 27 ∧ oBs X i (X i 27 - 1).toNat) : F_X11_laySound i X Y R  := by
  unfold F_X11_laySound
  intro hX hY X1 e1 r1
  obtain ⟨hA, hb1, hBs⟩ := hp
  obtain ⟨n, hn⟩ : ∃ n : Nat, X i 27 - 1 = n := ⟨(X i 27 - 1).toNat, by omega⟩
  rw [hn, Int.toNat_natCast] at hBs
  have hn14 := hBs.1.2.1
  have rS0 : rS X i 0 = some (fun a => mG X i (7 + a)) := pr_0
  have b1 : bS (sdf X i) 1 = 1 := by
    show (if sdf X i 0 then zOr 0 (zShl 1 0) else 0) = 1
    rw [show sdf X i 0 = true from by unfold sdf; rw [rS0]; rfl]
    decide +kernel
  refine ⟨⟨0, rfl, by decide, fun a h1 h2 => by rw [e1, zU_o h1], fun s hs => by rw [e1, zU_n (by omega)], by rw [e1, zU_s], fun b b1 b2 => by omega⟩, ?_⟩
  rintro j X3 rj r3 ⟨z, rfl, hz, o1, o2, o3, hrow⟩
  have t3 : tS X X3 i := ⟨o1 _ (by omega) (by omega), o1 _ (by omega) (by omega), o2 _ (by decide), o2 _ (by decide), o2 _ (by decide), o2 _ (by decide), o2 _ (by decide)⟩
  refine ⟨fun h6 => ⟨⟨1, rfl, by decide, by omega, o1, o2, o3.trans b1.symm, fun j hj M hM => ?_⟩, ?_⟩, fun h6 => ?_⟩
  · have e : j = 0 := by omega
    subst e
    rw [rS0] at hM
    cases hM
    intro b b1 b2
    show X3 (i + 16) (6 * 0 + b) = _
    rw [show 6 * 0 + b = b by omega]
    exact hrow b b1 (by omega)
  · rintro k X6 rk r6 ⟨q, rfl, hq1, hq2, hL⟩
    have t6 := lS_t hL
    obtain ⟨l1, l2, l3, l4⟩ := hL
    rw [t6.2.2.2.2.2.1]
    refine ⟨fun h => ?_, fun h => ?_⟩
    · rw [show (X i 27).toNat = q by omega]
      exact ⟨l1, l2, l3, l4⟩
    · have hP := rP_par hBs.1
      have hp := hP q hq1 (by omega)
      rw [rS_t t6, Int.toNat_natCast, l3]
      refine ⟨⟨q, rfl, hq1, oA_t t6 hA, ⟨n, oBs_t t6 hBs, by omega⟩, ?_, ?_⟩, ?_⟩
      · rw [rP_t t6, rS_t t6, l3]
        exact bS_has _ (by omega) hp
      · rw [rP_t t6, rS_t t6]
        exact l4 _ hp
      · rintro r10 X9 r9 ⟨hl, hr, hM⟩
        have g35 : X9 i = X6 i := hl.1 _ (by omega)
        have fin : ∀ X12 : Nat → Int → Int, X12 = zU X9 i 35 (bS (sdf X i) (q + 1)) → lS X X12 i (q + 1) := fun X12 e12 => by
          refine ⟨fun a h1 h2 => by rw [e12, zU_o h1]; exact (hl.1 a h2).trans (l1 a h1 h2), fun s hs => by rw [e12, zU_n (by omega), g35]; exact l2 s hs, by rw [e12, zU_s], fun j hj M hM9 b b1 b2 => ?_⟩
          rw [e12, zU_o (by omega)]
          by_cases e : j = q
          · subst e
            exact hM M hM9 b b1 b2
          · rw [hl.2 _ (by omega)]
            exact l4 j (by omega) M hM9 b b1 b2
        have es : bS (sdf X i) (q + 1) = if r10 then zOr (bS (sdf X i) q) (zShl 1 q) else bS (sdf X i) q := by
          rw [hr]
          rfl
        refine ⟨fun h0 X12 e12 r12 => ?_, fun h0 X14 e14 r14 => ?_⟩
        · refine ⟨⟨by omega, by omega⟩, ⟨q + 1, by omega, by omega, by omega, fin X12 ?_⟩, by omega⟩
          rw [e12, es, h0, zOr_0 (bS_rg _ _)]
          rfl
        · refine ⟨⟨by omega, by omega⟩, ⟨q + 1, by omega, by omega, by omega, fin X14 ?_⟩, by omega⟩
          rw [e14, es, h0]
          rfl
  · rw [mG_t t3]
    refine ⟨⟨by omega, by omega⟩, ⟨oN_t t3 hA.2.1, by omega, by omega⟩, fun _ => ⟨⟨by omega, by omega⟩, fun X20 e20 r20 => ⟨⟨by omega, by omega⟩, ⟨z + 1, by omega, by omega, fun a h1 h2 => by rw [e20, zU_o h2]; exact o1 a h1 h2, fun s hs => by rw [e20, zU_o (by omega)]; exact o2 s hs, by rw [e20, zU_o (by omega)]; exact o3, fun b b1 b2 => ?_⟩, by omega⟩⟩⟩
    rw [e20]
    by_cases e : b = z
    · rw [zU_at e, e]
    · rw [zU_n (by omega)]
      exact hrow b b1 (by omega)
theorem c_X11_laySound {l : Launch} {D : va_G} {cy : Nat → ClassId} {bs N : Nat} {sa : Nat → Nat} {kd len : Nat → Nat} {X Y : Nat → Int → Int} {R : Nat → Int → Option Nat} {i : Nat} (hM : zM N kd len R i)  (hp : oA X i ∧ 1 ≤ X i 27 ∧ oBs X i (X i 27 - 1).toNat) : Met l yX11_laySound (.code yX11_laySound cX11_laySound 2 none :: zTB) (zRm 4 91) (zPc D cy bs sa N kd len X Y R [.ref (bs + (i))]) (zQv D cy bs N kd len (fun st => st.2.1 = Y ∧ st.2.2 = R ∧ (lS X (st.1) i (X i 27).toNat))) 0 0 (zA bs) := w_X11_laySound hM  (v_X11_laySound  hp)
