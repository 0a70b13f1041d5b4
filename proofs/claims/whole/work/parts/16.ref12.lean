theorem sumN_s (g : Nat → Int) (n : Nat) : sumN g (n + 1) = sumN g n + g n := rfl
theorem p14 : ∀ m : Nat, m ≤ 14 → (2 : Int) ^ m ≤ 16384 ∧ 0 < (2 : Int) ^ m := by decide
def sbG (P : Nat → Nat) (w : Nat → Int) (f : Nat → Bool) (n k : Nat) : Nat → Int := fun e => if k < e ∧ f e = true ∧ P e = k then sSb P w f n e else 0
theorem sSb_14 {P : Nat → Nat} {w : Nat → Int} {f : Nat → Bool} {n k : Nat} (hw : ∀ k, k < n → 1 ≤ w k ∧ w k ≤ 26575110144) (hn : n ≤ 15) (hk : k < n) : 1 ≤ sSb P w f n k ∧ sSb P w f n k ≤ 435406604599296 := by
  have h := sSb_b (P := P) (f := f) hw n k hk (by omega)
  have p := p14 (n - 1 - k) (by omega)
  generalize (2 : Int) ^ (n - 1 - k) = z at h p
  exact ⟨h.1, by omega⟩
theorem sbG_b {P : Nat → Nat} {w : Nat → Int} {f : Nat → Bool} {n k : Nat} (hw : ∀ k, k < n → 1 ≤ w k ∧ w k ≤ 26575110144) (hn : n ≤ 15) {q : Nat} (h1 : k < q) (h2 : q ≤ n) : 0 ≤ sumN (sbG P w f n k) q ∧ sumN (sbG P w f n k) q ≤ 435406604599296 := by
  have h := sumN_b (g := sbG P w f n k) (B := 26575110144) (n := n) (k := k) (fun e he => by
    unfold sbG
    by_cases c : k < e ∧ f e = true ∧ P e = k
    · rw [if_pos c, if_pos c.1]
      have := sSb_b (P := P) (f := f) hw n e he (by omega)
      exact ⟨by omega, this.2⟩
    · rw [if_neg c]
      split
      · exact ⟨by omega, Int.mul_nonneg (by decide) (Int.le_of_lt (Int.pow_pos (by decide)))⟩
      · exact ⟨by omega, by omega⟩) q h2 h1
  have p := p14 (n - 1 - k) (by omega)
  have p2 := p14 (n - q) (by omega)
  generalize (2 : Int) ^ (n - 1 - k) = z at h p
  generalize (2 : Int) ^ (n - q) = z2 at h p2
  exact ⟨h.1, by omega⟩
def mSb (X Y : Nat → Int → Int) (i : Nat) (s : Int) (j : Nat) : Int := sSb (rP X i) (fun k => Y (i + 14) k) (fun e => mHas s e) (X i 27).toNat j
abbrev oW (X Y : Nat → Int → Int) (i : Nat) : Prop := (1 ≤ X i 27 ∧ X i 27 ≤ 15) ∧ oB X i (X i 27 - 1) ∧ ∀ j : Nat, (j : Int) < X i 27 → 1 ≤ Y (i + 14) j ∧ Y (i + 14) j ≤ 26575110144
def lT (X Y Y1 : Nat → Int → Int) (i : Nat) (s k : Int) : Prop := (∀ a, a ≠ i + 18 → Y1 a = Y a) ∧ ∀ j : Nat, k ≤ j → (j : Int) < X i 27 → Y1 (i + 18) j = mSb X Y i s j
abbrev cX11_laySubtrees : ByteArray := prog_13_method_58_code
def yX11_laySubtrees : MethodName := ⟨RX11, "laySubtrees", "(I)V"⟩
theorem dX11_laySubtrees_0 : decode cX11_laySubtrees 0 = .ok (.aload_n 0, 1) := by decide +kernel
theorem dX11_laySubtrees_1 : decode cX11_laySubtrees 1 = .ok (.getfield 255, 3) := by decide +kernel
theorem dX11_laySubtrees_4 : decode cX11_laySubtrees 4 = .ok (.iconst 1, 1) := by decide +kernel
theorem dX11_laySubtrees_5 : decode cX11_laySubtrees 5 = .ok (.isub, 1) := by decide +kernel
theorem dX11_laySubtrees_6 : decode cX11_laySubtrees 6 = .ok (.istore_n 2, 1) := by decide +kernel
theorem dX11_laySubtrees_7 : decode cX11_laySubtrees 7 = .ok (.iload_n 2, 1) := by decide +kernel
theorem dX11_laySubtrees_8 : decode cX11_laySubtrees 8 = .ok (.ifCond .lt 75, 3) := by decide +kernel
theorem dX11_laySubtrees_11 : decode cX11_laySubtrees 11 = .ok (.aload_n 0, 1) := by decide +kernel
theorem dX11_laySubtrees_12 : decode cX11_laySubtrees 12 = .ok (.getfield 63, 3) := by decide +kernel
theorem dX11_laySubtrees_15 : decode cX11_laySubtrees 15 = .ok (.iload_n 2, 1) := by decide +kernel
theorem dX11_laySubtrees_16 : decode cX11_laySubtrees 16 = .ok (.aload_n 0, 1) := by decide +kernel
theorem dX11_laySubtrees_17 : decode cX11_laySubtrees 17 = .ok (.getfield 50, 3) := by decide +kernel
theorem dX11_laySubtrees_20 : decode cX11_laySubtrees 20 = .ok (.iload_n 2, 1) := by decide +kernel
theorem dX11_laySubtrees_21 : decode cX11_laySubtrees 21 = .ok (.laload, 1) := by decide +kernel
theorem dX11_laySubtrees_22 : decode cX11_laySubtrees 22 = .ok (.lastore, 1) := by decide +kernel
theorem dX11_laySubtrees_23 : decode cX11_laySubtrees 23 = .ok (.iload_n 2, 1) := by decide +kernel
theorem dX11_laySubtrees_24 : decode cX11_laySubtrees 24 = .ok (.iconst 1, 1) := by decide +kernel
theorem dX11_laySubtrees_25 : decode cX11_laySubtrees 25 = .ok (.iadd, 1) := by decide +kernel
theorem dX11_laySubtrees_26 : decode cX11_laySubtrees 26 = .ok (.istore_n 3, 1) := by decide +kernel
theorem dX11_laySubtrees_27 : decode cX11_laySubtrees 27 = .ok (.iload_n 3, 1) := by decide +kernel
theorem dX11_laySubtrees_28 : decode cX11_laySubtrees 28 = .ok (.aload_n 0, 1) := by decide +kernel
theorem dX11_laySubtrees_29 : decode cX11_laySubtrees 29 = .ok (.getfield 255, 3) := by decide +kernel
theorem dX11_laySubtrees_32 : decode cX11_laySubtrees 32 = .ok (.if_icmp .ge 45, 3) := by decide +kernel
theorem dX11_laySubtrees_35 : decode cX11_laySubtrees 35 = .ok (.aload_n 0, 1) := by decide +kernel
theorem dX11_laySubtrees_36 : decode cX11_laySubtrees 36 = .ok (.getfield 63, 3) := by decide +kernel
theorem dX11_laySubtrees_39 : decode cX11_laySubtrees 39 = .ok (.iload_n 2, 1) := by decide +kernel
theorem dX11_laySubtrees_40 : decode cX11_laySubtrees 40 = .ok (.dup2, 1) := by decide +kernel
theorem dX11_laySubtrees_41 : decode cX11_laySubtrees 41 = .ok (.laload, 1) := by decide +kernel
theorem dX11_laySubtrees_42 : decode cX11_laySubtrees 42 = .ok (.iload_n 1, 1) := by decide +kernel
theorem dX11_laySubtrees_43 : decode cX11_laySubtrees 43 = .ok (.iload_n 3, 1) := by decide +kernel
theorem dX11_laySubtrees_44 : decode cX11_laySubtrees 44 = .ok (.invokestatic 92, 3) := by decide +kernel
theorem dX11_laySubtrees_47 : decode cX11_laySubtrees 47 = .ok (.ifCond .eq 21, 3) := by decide +kernel
theorem dX11_laySubtrees_50 : decode cX11_laySubtrees 50 = .ok (.aload_n 0, 1) := by decide +kernel
theorem dX11_laySubtrees_51 : decode cX11_laySubtrees 51 = .ok (.iload_n 3, 1) := by decide +kernel
theorem dX11_laySubtrees_52 : decode cX11_laySubtrees 52 = .ok (.invokevirtual 264, 3) := by decide +kernel
theorem dX11_laySubtrees_55 : decode cX11_laySubtrees 55 = .ok (.iload_n 2, 1) := by decide +kernel
theorem dX11_laySubtrees_56 : decode cX11_laySubtrees 56 = .ok (.if_icmp .ne 12, 3) := by decide +kernel
theorem dX11_laySubtrees_59 : decode cX11_laySubtrees 59 = .ok (.aload_n 0, 1) := by decide +kernel
theorem dX11_laySubtrees_60 : decode cX11_laySubtrees 60 = .ok (.getfield 63, 3) := by decide +kernel
theorem dX11_laySubtrees_63 : decode cX11_laySubtrees 63 = .ok (.iload_n 3, 1) := by decide +kernel
theorem dX11_laySubtrees_64 : decode cX11_laySubtrees 64 = .ok (.laload, 1) := by decide +kernel
theorem dX11_laySubtrees_65 : decode cX11_laySubtrees 65 = .ok (.goto 4, 3) := by decide +kernel
theorem dX11_laySubtrees_68 : decode cX11_laySubtrees 68 = .ok (.lconst 0, 1) := by decide +kernel
theorem dX11_laySubtrees_69 : decode cX11_laySubtrees 69 = .ok (.ladd, 1) := by decide +kernel
theorem dX11_laySubtrees_70 : decode cX11_laySubtrees 70 = .ok (.lastore, 1) := by decide +kernel
theorem dX11_laySubtrees_71 : decode cX11_laySubtrees 71 = .ok (.iinc 3 1, 3) := by decide +kernel
theorem dX11_laySubtrees_74 : decode cX11_laySubtrees 74 = .ok (.goto (-47), 3) := by decide +kernel
theorem dX11_laySubtrees_77 : decode cX11_laySubtrees 77 = .ok (.iinc 2 (-1), 3) := by decide +kernel
theorem dX11_laySubtrees_80 : decode cX11_laySubtrees 80 = .ok (.goto (-73), 3) := by decide +kernel
theorem dX11_laySubtrees_83 : decode cX11_laySubtrees 83 = .ok (.return_, 1) := by decide +kernel
theorem q_1326 : Cond.fieldLink RX11 63 RX11 "subtree" "[J" ∈ zTB := zmem 1326 (by decide +kernel) rfl
def F_X11_laySubtrees (i : Nat) (X Y : Nat → Int → Int) (R : Nat → Int → Option Nat) (a : Int) : Prop := (∀ i j, rI (X i j)) → (∀ i j, rL (Y i j)) → (rI ((X (i) 27) - 1)) ∧ (-1 ≤ (X (i) 27) - 1 ∧ (X (i) 27) - 1 < X i 27 ∧ lT X Y Y i a ((X (i) 27) - 1 + 1)) ∧ (∀ (k : Int) (Y2 : Nat → Int → Int), rI k → (∀ i j, rL (Y2 i j)) → (-1 ≤ k ∧ k < X i 27 ∧ lT X Y Y2 i a (k + 1)) → (((k < 0) → (lT X Y (Y2) i (a) 0)) ∧ ((¬ (k < 0)) → ((0 ≤ k ∧ k < 15) ∧ ((0 ≤ k ∧ k < 15) ∧ (∀ Y6 : Nat → Int → Int, Y6 = zU Y2 (i + 18) (k) (Y2 (i + 14) (k)) → (∀ i j, rL (Y6 i j)) → ((rI (k + 1)) ∧ (∃ q z : Nat, k + 1 = q ∧ k = z ∧ z < q ∧ k + 1 ≤ X i 27 ∧ lT X Y Y6 i a (k + 1) ∧ Y6 (i + 18) k = Y (i + 14) k + sumN (sbG (rP X i) (fun k => Y (i + 14) k) (fun e => mHas a e) (X i 27).toNat z) q) ∧ (∀ (e_ : Int) (Y8 : Nat → Int → Int), rI e_ → (∀ i j, rL (Y8 i j)) → (∃ q z : Nat, e_ = q ∧ k = z ∧ z < q ∧ e_ ≤ X i 27 ∧ lT X Y Y8 i a (k + 1) ∧ Y8 (i + 18) k = Y (i + 14) k + sumN (sbG (rP X i) (fun k => Y (i + 14) k) (fun e => mHas a e) (X i 27).toNat z) q) → ((((X (i) 27) ≤ e_) → ((rI (k + (-1))) ∧ (-1 ≤ k + (-1) ∧ k + (-1) < X i 27 ∧ lT X Y Y8 i a (k + (-1) + 1)) ∧ (((k + (-1) + 1).toNat) < ((k + 1).toNat)))) ∧ ((¬ ((X (i) 27) ≤ e_)) → ((0 ≤ k ∧ k < 15) ∧ ((((mHas (a) (e_)) = false) → ((0 ≤ k ∧ k < 15) ∧ ((rL ((Y8 (i + 18) (k)) + (0))) ∧ (∀ Y15 : Nat → Int → Int, Y15 = zU Y8 (i + 18) (k) ((Y8 (i + 18) (k)) + (0)) → (∀ i j, rL (Y15 i j)) → ((rI (e_ + 1)) ∧ (∃ q z : Nat, e_ + 1 = q ∧ k = z ∧ z < q ∧ e_ + 1 ≤ X i 27 ∧ lT X Y Y15 i a (k + 1) ∧ Y15 (i + 18) k = Y (i + 14) k + sumN (sbG (rP X i) (fun k => Y (i + 14) k) (fun e => mHas a e) (X i 27).toNat z) q) ∧ (((X i 27 - (e_ + 1)).toNat) < ((X i 27 - (e_)).toNat))))))) ∧ (((mHas (a) (e_)) = true) → ((oC X i ∧ 0 ≤ e_ ∧ e_ ≤ 14) ∧ (rI (mPar X i (e_)) → (((¬ (mPar X i (e_)) = k) → ((0 ≤ k ∧ k < 15) ∧ ((rL ((Y8 (i + 18) (k)) + (0))) ∧ (∀ Y22 : Nat → Int → Int, Y22 = zU Y8 (i + 18) (k) ((Y8 (i + 18) (k)) + (0)) → (∀ i j, rL (Y22 i j)) → ((rI (e_ + 1)) ∧ (∃ q z : Nat, e_ + 1 = q ∧ k = z ∧ z < q ∧ e_ + 1 ≤ X i 27 ∧ lT X Y Y22 i a (k + 1) ∧ Y22 (i + 18) k = Y (i + 14) k + sumN (sbG (rP X i) (fun k => Y (i + 14) k) (fun e => mHas a e) (X i 27).toNat z) q) ∧ (((X i 27 - (e_ + 1)).toNat) < ((X i 27 - (e_)).toNat))))))) ∧ ((¬ (¬ (mPar X i (e_)) = k)) → ((0 ≤ e_ ∧ e_ < 15) ∧ ((0 ≤ k ∧ k < 15) ∧ ((rL ((Y8 (i + 18) (k)) + (Y8 (i + 18) (e_)))) ∧ (∀ Y27 : Nat → Int → Int, Y27 = zU Y8 (i + 18) (k) ((Y8 (i + 18) (k)) + (Y8 (i + 18) (e_))) → (∀ i j, rL (Y27 i j)) → ((rI (e_ + 1)) ∧ (∃ q z : Nat, e_ + 1 = q ∧ k = z ∧ z < q ∧ e_ + 1 ≤ X i 27 ∧ lT X Y Y27 i a (k + 1) ∧ Y27 (i + 18) k = Y (i + 14) k + sumN (sbG (rP X i) (fun k => Y (i + 14) k) (fun e => mHas a e) (X i 27).toNat z) q) ∧ (((X i 27 - (e_ + 1)).toNat) < ((X i 27 - (e_)).toNat))))))))))))))))))))))))
set_option maxHeartbeats 4000000 in
set_option maxRecDepth 100000 in
theorem w_X11_laySubtrees {l : Launch} {D : va_G} {cy : Nat → ClassId} {bs N : Nat} {sa : Nat → Nat} {kd len : Nat → Nat} {X Y : Nat → Int → Int} {R : Nat → Int → Option Nat} {i : Nat} (hM : zM N kd len R i) (a : Int) (ha : rI a) (hF : F_X11_laySubtrees i X Y R a) : Met l yX11_laySubtrees (.code yX11_laySubtrees cX11_laySubtrees 4 none :: zTB) (zRm 2 43) (zPc D cy bs sa N kd len X Y R [.ref (bs + (i)), .int (zI (a))]) (zQv D cy bs N kd len (fun st => st.1 = X ∧ st.2.2 = R ∧ (lT X Y (st.2.1) i (a) 0))) 0 0 (zA bs) := by
  refine zstart (by decide) (Nat.le_of_ble_eq_true rfl) ?_
  intro p e s m args below meth c ls C hE hH hr hlk hnm hl hargs
  have hF := hF hH.2.2.1 hH.2.2.2
  have hS : va_S (zA bs) s.heap s.heap [] := va_S.rf
  have hl : lv_has ls 4 [(0, .ref (bs + (i))), (1, .int (zI (a)))] := hl
  refine lv_aload_n C.1 C.2.1 dX11_laySubtrees_0 rfl (lv_at hl 0 rfl) ?_
  refine zg11_27 C hH (zM_n0 hM) (zM_k0 hM) q_1314 dX11_laySubtrees_1 ?_
  refine zd_iconst C dX11_laySubtrees_4 ?_
  refine zd_isub C dX11_laySubtrees_5 ?_
  refine lv_istore_n (lv' := [(2, .int (zI ((X (i) 27) - 1))), (0, .ref (bs + (i))), (1, .int (zI (a)))]) C.1 C.2.1 dX11_laySubtrees_6 rfl hl (by decide) rfl (fun ls hl => ?_)
  obtain ⟨o30, hF⟩ := hF
  obtain ⟨hI1, hF⟩ := hF
  have L1 : ∀ (fu : Nat) (k : Int) (Y2 : Nat → Int → Int), rI k → (-1 ≤ k ∧ k < X i 27 ∧ lT X Y Y2 i a (k + 1)) → ((k + 1).toNat) < fu → ∀ (H : Heap) (locs : List Loc) (ls : Array Slot), zH D cy bs N kd len X Y2 R H → va_S (zA bs) s.heap H locs → lv_has ls 4 [(2, .int (zI (k))), (0, .ref (bs + (i))), (1, .int (zI (a)))] → W p l e (zRm 2 43) s m args below meth c H locs 0 0 (MQ below (zQv D cy bs N kd len (fun st => st.1 = X ∧ st.2.2 = R ∧ (lT X Y (st.2.1) i (a) 0))) args s 0 0 (zA bs)) (F0 m 7 ls []) := by
    intro fu
    induction fu with
    | zero => intro k Y2 _ _ hmu; exact absurd hmu (Nat.not_lt_zero _)
    | succ fu ih1 =>
      intro k Y2 hk hI hmu1 H locs ls hH hS hl
      have hF := hF k Y2 hk hH.2.2.2 hI
      refine lv_iload_n C.1 C.2.1 dX11_laySubtrees_7 rfl (lv_at hl 0 rfl) ?_
      refine zd_if_lt C hk 83 dX11_laySubtrees_8 (by decide) (fun c3 => ?_) (fun c3 => ?_)
      · have hF := hF.1 c3
        exact zd_vret C hr hlk hH hS (⟨rfl, rfl, hF⟩) dX11_laySubtrees_83
      · have hF := hF.2 c3
        refine lv_aload_n C.1 C.2.1 dX11_laySubtrees_11 rfl (lv_at hl 1 rfl) ?_
        refine zg11_39 C hH (zM_n0 hM) (zM_k0 hM) q_1326 (zM_r18 hM) dX11_laySubtrees_12 ?_
        refine lv_iload_n C.1 C.2.1 dX11_laySubtrees_15 rfl (lv_at hl 0 rfl) ?_
        refine lv_aload_n C.1 C.2.1 dX11_laySubtrees_16 rfl (lv_at hl 1 rfl) ?_
        refine zg11_32 C hH (zM_n0 hM) (zM_k0 hM) q_1319 (zM_r14 hM) dX11_laySubtrees_17 ?_
        refine lv_iload_n C.1 C.2.1 dX11_laySubtrees_20 rfl (lv_at hl 0 rfl) ?_
        obtain ⟨o4, hF⟩ := hF
        refine zd_lald C hH (zM_n14 hM) (zM_k14 hM) o4.1 (by rw [zM_l14 hM]; exact o4.2) (by rw [zM_l14 hM]; decide) dX11_laySubtrees_21 ?_
        obtain ⟨o5, hF⟩ := hF
        refine zd_last C hH hS (zM_n18 hM) (zM_k18 hM) o5.1 (by rw [zM_l18 hM]; exact o5.2) (by rw [zM_l18 hM]; decide) (hH.2.2.2 _ _) dX11_laySubtrees_22 (fun H locs hH hS => ?_)
        obtain ⟨Y6, eY6⟩ : ∃ z, z = zU Y2 (i + 18) (k) (Y2 (i + 14) (k)) := ⟨_, rfl⟩
        rw [← eY6] at hH
        have hF := hF Y6 eY6 hH.2.2.2
        refine lv_iload_n C.1 C.2.1 dX11_laySubtrees_23 rfl (lv_at hl 0 rfl) ?_
        refine zd_iconst C dX11_laySubtrees_24 ?_
        refine zd_iadd C dX11_laySubtrees_25 ?_
        refine lv_istore_n (lv' := [(3, .int (zI (k + 1))), (2, .int (zI (k))), (0, .ref (bs + (i))), (1, .int (zI (a)))]) C.1 C.2.1 dX11_laySubtrees_26 rfl hl (by decide) rfl (fun ls hl => ?_)
        obtain ⟨o29, hF⟩ := hF
        obtain ⟨hI7, hF⟩ := hF
        have L7 : ∀ (fu : Nat) (e_ : Int) (Y8 : Nat → Int → Int), rI e_ → (∃ q z : Nat, e_ = q ∧ k = z ∧ z < q ∧ e_ ≤ X i 27 ∧ lT X Y Y8 i a (k + 1) ∧ Y8 (i + 18) k = Y (i + 14) k + sumN (sbG (rP X i) (fun k => Y (i + 14) k) (fun e => mHas a e) (X i 27).toNat z) q) → ((X i 27 - (e_)).toNat) < fu → ∀ (H : Heap) (locs : List Loc) (ls : Array Slot), zH D cy bs N kd len X Y8 R H → va_S (zA bs) s.heap H locs → lv_has ls 4 [(3, .int (zI (e_))), (2, .int (zI (k))), (0, .ref (bs + (i))), (1, .int (zI (a)))] → W p l e (zRm 2 43) s m args below meth c H locs 0 0 (MQ below (zQv D cy bs N kd len (fun st => st.1 = X ∧ st.2.2 = R ∧ (lT X Y (st.2.1) i (a) 0))) args s 0 0 (zA bs)) (F0 m 27 ls []) := by
          intro fu
          induction fu with
          | zero => intro e_ Y8 _ _ hmu; exact absurd hmu (Nat.not_lt_zero _)
          | succ fu ih7 =>
            intro e_ Y8 he_ hI hmu7 H locs ls hH hS hl
            have hF := hF e_ Y8 he_ hH.2.2.2 hI
            refine lv_iload_n C.1 C.2.1 dX11_laySubtrees_27 rfl (lv_at hl 0 rfl) ?_
            refine lv_aload_n C.1 C.2.1 dX11_laySubtrees_28 rfl (lv_at hl 2 rfl) ?_
            refine zg11_27 C hH (zM_n0 hM) (zM_k0 hM) q_1314 dX11_laySubtrees_29 ?_
            refine zd_icmp_ge C he_ (hH.2.2.1 _ _) 77 dX11_laySubtrees_32 (by decide) (fun c9 => ?_) (fun c9 => ?_)
            · have hF := hF.1 c9
              refine zd_iinc (k := 1) (lv' := [(2, .int (zI (k + (-1)))), (3, .int (zI (e_))), (0, .ref (bs + (i))), (1, .int (zI (a)))]) C hl rfl dX11_laySubtrees_77 (by decide) rfl (fun ls hl => ?_)
              refine lv_goto (tgt := 7) C.1 C.2.1 dX11_laySubtrees_80 (by decide) ?_
              obtain ⟨o10, hF⟩ := hF
              exact ih1 (k + (-1)) Y8 o10 hF.1 (Nat.lt_of_lt_of_le hF.2 (Nat.le_of_lt_succ hmu1)) _ _ _ hH hS (lv_sub hl [0, 2, 3] rfl)
            · have hF := hF.2 c9
              refine lv_aload_n C.1 C.2.1 dX11_laySubtrees_35 rfl (lv_at hl 2 rfl) ?_
              refine zg11_39 C hH (zM_n0 hM) (zM_k0 hM) q_1326 (zM_r18 hM) dX11_laySubtrees_36 ?_
              refine lv_iload_n C.1 C.2.1 dX11_laySubtrees_39 rfl (lv_at hl 1 rfl) ?_
              refine lv_dup2_11 C.1 C.2.1 dX11_laySubtrees_40 rfl rfl ?_
              obtain ⟨o11, hF⟩ := hF
              refine zd_lald C hH (zM_n18 hM) (zM_k18 hM) o11.1 (by rw [zM_l18 hM]; exact o11.2) (by rw [zM_l18 hM]; decide) dX11_laySubtrees_41 ?_
              refine lv_iload_n C.1 C.2.1 dX11_laySubtrees_42 rfl (lv_at hl 3 rfl) ?_
              refine lv_iload_n C.1 C.2.1 dX11_laySubtrees_43 rfl (lv_at hl 0 rfl) ?_
              refine zgoi (zrunS (As := [.int (zI (a)), .int (zI (e_))]) (rest := [.long (zL (Y8 (i + 18) (k))), .int (zI (k)), .ref (bs + (i + 18))]) C hE hH hS hl.1 (c_X11_has (l := l)  (a) ha (e_) he_) k_RX11_92 ⟨Nat.le_of_ble_eq_true rfl, Nat.le_of_ble_eq_true rfl⟩ rfl (Nat.le_of_ble_eq_true rfl) dX11_laySubtrees_44 ⟨Nat.zero_le _, Nat.zero_le _⟩) hS (fun rq Xq Yq Rq H locs hrq hq hH hS => ?_)
              obtain ⟨h91, h92⟩ := hq
              have h93 : Xq = X := congrArg (fun z => z.1) h92
              have h94 : Yq = Y8 := congrArg (fun z => z.2.1) h92
              have h95 : Rq = R := congrArg (fun z => z.2.2) h92
              rw [h93, h94, h95] at hH
              subst h91
              refine zd_ifB_eq C 68 dX11_laySubtrees_47 (by decide) (fun c12 => ?_) (fun c12 => ?_)
              · have hF := hF.1 c12
                refine lv_lconst (v := zL 0) C.1 C.2.1 dX11_laySubtrees_68 rfl ?_
                refine zd_ladd C dX11_laySubtrees_69 ?_
                obtain ⟨o13, hF⟩ := hF
                obtain ⟨o14, hF⟩ := hF
                refine zd_last C hH hS (zM_n18 hM) (zM_k18 hM) o13.1 (by rw [zM_l18 hM]; exact o13.2) (by rw [zM_l18 hM]; decide) o14 dX11_laySubtrees_70 (fun H locs hH hS => ?_)
                obtain ⟨Y15, eY15⟩ : ∃ z, z = zU Y8 (i + 18) (k) ((Y8 (i + 18) (k)) + (0)) := ⟨_, rfl⟩
                rw [← eY15] at hH
                have hF := hF Y15 eY15 hH.2.2.2
                refine zd_iinc (k := 0) (lv' := [(3, .int (zI (e_ + 1))), (2, .int (zI (k))), (0, .ref (bs + (i))), (1, .int (zI (a)))]) C hl rfl dX11_laySubtrees_71 (by decide) rfl (fun ls hl => ?_)
                refine lv_goto (tgt := 27) C.1 C.2.1 dX11_laySubtrees_74 (by decide) ?_
                obtain ⟨o16, hF⟩ := hF
                exact ih7 (e_ + 1) Y15 o16 hF.1 (Nat.lt_of_lt_of_le hF.2 (Nat.le_of_lt_succ hmu7)) _ _ _ hH hS (lv_sub hl [0, 1, 2, 3] rfl)
              · have hF := hF.2 c12
                refine lv_aload_n C.1 C.2.1 dX11_laySubtrees_50 rfl (lv_at hl 2 rfl) ?_
                refine lv_iload_n C.1 C.2.1 dX11_laySubtrees_51 rfl (lv_at hl 0 rfl) ?_
                obtain ⟨o17, hF⟩ := hF
                refine zgoi (zrunV (As := [.int (zI (e_))]) (rest := [.long (zL (Y8 (i + 18) (k))), .int (zI (k)), .ref (bs + (i + 18))]) C hE hH hS hl.1 (c_X11_parentOf (l := l) hM (e_) he_ o17) k_RX11_264 ⟨Nat.le_of_ble_eq_true rfl, Nat.le_of_ble_eq_true rfl⟩ (zM_n0 hM) (zM_k0 hM) rfl rfl rfl (Nat.le_of_ble_eq_true rfl) dX11_laySubtrees_52 ⟨Nat.zero_le _, Nat.zero_le _⟩) hS (fun rq Xq Yq Rq H locs hrq hq hH hS => ?_)
                obtain ⟨h91, h92⟩ := hq
                have h93 : Xq = X := congrArg (fun z => z.1) h92
                have h94 : Yq = Y8 := congrArg (fun z => z.2.1) h92
                have h95 : Rq = R := congrArg (fun z => z.2.2) h92
                rw [h93, h94, h95] at hH
                subst h91
                have hr18 := hrq
                have hF := hF hr18
                refine lv_iload_n C.1 C.2.1 dX11_laySubtrees_55 rfl (lv_at hl 1 rfl) ?_
                refine zd_icmp_ne C hr18 hk 68 dX11_laySubtrees_56 (by decide) (fun c19 => ?_) (fun c19 => ?_)
                · have hF := hF.1 c19
                  refine lv_lconst (v := zL 0) C.1 C.2.1 dX11_laySubtrees_68 rfl ?_
                  refine zd_ladd C dX11_laySubtrees_69 ?_
                  obtain ⟨o20, hF⟩ := hF
                  obtain ⟨o21, hF⟩ := hF
                  refine zd_last C hH hS (zM_n18 hM) (zM_k18 hM) o20.1 (by rw [zM_l18 hM]; exact o20.2) (by rw [zM_l18 hM]; decide) o21 dX11_laySubtrees_70 (fun H locs hH hS => ?_)
                  obtain ⟨Y22, eY22⟩ : ∃ z, z = zU Y8 (i + 18) (k) ((Y8 (i + 18) (k)) + (0)) := ⟨_, rfl⟩
                  rw [← eY22] at hH
                  have hF := hF Y22 eY22 hH.2.2.2
                  refine zd_iinc (k := 0) (lv' := [(3, .int (zI (e_ + 1))), (2, .int (zI (k))), (0, .ref (bs + (i))), (1, .int (zI (a)))]) C hl rfl dX11_laySubtrees_71 (by decide) rfl (fun ls hl => ?_)
                  refine lv_goto (tgt := 27) C.1 C.2.1 dX11_laySubtrees_74 (by decide) ?_
                  obtain ⟨o23, hF⟩ := hF
                  exact ih7 (e_ + 1) Y22 o23 hF.1 (Nat.lt_of_lt_of_le hF.2 (Nat.le_of_lt_succ hmu7)) _ _ _ hH hS (lv_sub hl [0, 1, 2, 3] rfl)
                · have hF := hF.2 c19
                  refine lv_aload_n C.1 C.2.1 dX11_laySubtrees_59 rfl (lv_at hl 2 rfl) ?_
                  refine zg11_39 C hH (zM_n0 hM) (zM_k0 hM) q_1326 (zM_r18 hM) dX11_laySubtrees_60 ?_
                  refine lv_iload_n C.1 C.2.1 dX11_laySubtrees_63 rfl (lv_at hl 0 rfl) ?_
                  obtain ⟨o24, hF⟩ := hF
                  refine zd_lald C hH (zM_n18 hM) (zM_k18 hM) o24.1 (by rw [zM_l18 hM]; exact o24.2) (by rw [zM_l18 hM]; decide) dX11_laySubtrees_64 ?_
                  refine lv_goto (tgt := 69) C.1 C.2.1 dX11_laySubtrees_65 (by decide) ?_
                  refine zd_ladd C dX11_laySubtrees_69 ?_
                  obtain ⟨o25, hF⟩ := hF
                  obtain ⟨o26, hF⟩ := hF
                  refine zd_last C hH hS (zM_n18 hM) (zM_k18 hM) o25.1 (by rw [zM_l18 hM]; exact o25.2) (by rw [zM_l18 hM]; decide) o26 dX11_laySubtrees_70 (fun H locs hH hS => ?_)
                  obtain ⟨Y27, eY27⟩ : ∃ z, z = zU Y8 (i + 18) (k) ((Y8 (i + 18) (k)) + (Y8 (i + 18) (e_))) := ⟨_, rfl⟩
                  rw [← eY27] at hH
                  have hF := hF Y27 eY27 hH.2.2.2
                  refine zd_iinc (k := 0) (lv' := [(3, .int (zI (e_ + 1))), (2, .int (zI (k))), (0, .ref (bs + (i))), (1, .int (zI (a)))]) C hl rfl dX11_laySubtrees_71 (by decide) rfl (fun ls hl => ?_)
                  refine lv_goto (tgt := 27) C.1 C.2.1 dX11_laySubtrees_74 (by decide) ?_
                  obtain ⟨o28, hF⟩ := hF
                  exact ih7 (e_ + 1) Y27 o28 hF.1 (Nat.lt_of_lt_of_le hF.2 (Nat.le_of_lt_succ hmu7)) _ _ _ hH hS (lv_sub hl [0, 1, 2, 3] rfl)
        exact L7 (((X i 27 - (k + 1)).toNat) + 1) (k + 1) Y6 o29 hI7 (Nat.lt_succ_self _) _ _ _ hH hS (lv_sub hl [0, 1, 2, 3] rfl)
  exact L1 ((((X (i) 27) - 1 + 1).toNat) + 1) ((X (i) 27) - 1) Y o30 hI1 (Nat.lt_succ_self _) _ _ _ hH hS (lv_sub hl [0, 1, 2] rfl)
theorem v_X11_laySubtrees {X Y : Nat → Int → Int} {R : Nat → Int → Option Nat} {i : Nat} (a : Int) (ha : rI a) (hp : oW X Y i) : F_X11_laySubtrees i X Y R a := by
  unfold F_X11_laySubtrees
  intro hX hY
  obtain ⟨hb, hB, hw⟩ := hp
  obtain ⟨n, hn⟩ : ∃ n : Nat, X i 27 = n := ⟨(X i 27).toNat, by omega⟩
  have eS : ∀ j, mSb X Y i a j = sSb (rP X i) (fun k => Y (i + 14) k) (fun e => mHas a e) n j := fun j => by
    unfold mSb
    rw [hn, Int.toNat_natCast]
  have hw2 : ∀ k : Nat, k < n → 1 ≤ (fun k : Nat => Y (i + 14) k) k ∧ (fun k : Nat => Y (i + 14) k) k ≤ 26575110144 := fun k hk => hw k (by omega)
  refine ⟨⟨by omega, by omega⟩, ⟨by omega, by omega, fun _ _ => rfl, fun j h1 h2 => by omega⟩, ?_⟩
  rintro k Y2 rk r2 ⟨k1, k2, hL⟩
  refine ⟨fun h => ⟨hL.1, fun j h1 h2 => hL.2 j (by omega) h2⟩, fun h => ?_⟩
  obtain ⟨z, rfl⟩ : ∃ z : Nat, k = z := ⟨k.toNat, by omega⟩
  refine ⟨⟨by omega, by omega⟩, ⟨by omega, by omega⟩, fun Y6 e6 r6 => ⟨⟨by omega, by omega⟩, ⟨z + 1, z, by omega, rfl, by omega, by omega, ⟨fun b hb => by rw [e6, zU_o hb]; exact hL.1 b hb, fun j h1 h2 => by rw [e6, zU_n (by omega)]; exact hL.2 j h1 h2⟩, ?_⟩, ?_⟩⟩
  · rw [e6, zU_s, hL.1 _ (by omega), sumN_0 (fun e he => by unfold sbG; rw [if_neg (by omega)])]
    omega
  · rintro e_ Y8 re r8 ⟨q, z', rfl, hz, hq, hq2, hL8, hk8⟩
    have ez : z' = z := by omega
    subst ez
    rw [hn, Int.toNat_natCast] at hk8
    rw [hn, Int.toNat_natCast]
    refine ⟨fun h => ?_, fun h => ?_⟩
    · refine ⟨⟨by omega, by omega⟩, ⟨by omega, by omega, hL8.1, fun j h1 h2 => ?_⟩, by omega⟩
      by_cases e : j = z'
      · subst e
        rw [hk8, eS, sSb_e (by omega), show q = n by omega]
        rfl
      · exact hL8.2 j (by omega) h2
    · have hsum := sbG_b (P := rP X i) (f := fun e => mHas a e) hw2 (by omega) (k := z') (q := q + 1) (by omega) (by omega)
      have hsum : 0 ≤ sumN (sbG (rP X i) (fun k => Y (i + 14) k) (fun e => mHas a e) n z') q + sbG (rP X i) (fun k => Y (i + 14) k) (fun e => mHas a e) n z' q ∧ sumN (sbG (rP X i) (fun k => Y (i + 14) k) (fun e => mHas a e) n z') q + sbG (rP X i) (fun k => Y (i + 14) k) (fun e => mHas a e) n z' q ≤ 435406604599296 := hsum
      have hwz := hw z' (by omega)
      have fin : ∀ (v : Int) (Y9 : Nat → Int → Int), v = sbG (rP X i) (fun k => Y (i + 14) k) (fun e => mHas a e) n z' q → Y9 = zU Y8 (i + 18) z' (Y8 (i + 18) z' + v) → (rI ((q : Int) + 1)) ∧ (∃ q1 z : Nat, (q : Int) + 1 = q1 ∧ (z' : Int) = z ∧ z < q1 ∧ (q : Int) + 1 ≤ n ∧ lT X Y Y9 i a (z' + 1) ∧ Y9 (i + 18) z' = Y (i + 14) z' + sumN (sbG (rP X i) (fun k => Y (i + 14) k) (fun e => mHas a e) n z) q1) ∧ (((n : Int) - ((q : Int) + 1)).toNat < ((n : Int) - q).toNat) := fun v Y9 hv e9 => by
        refine ⟨⟨by omega, by omega⟩, ⟨q + 1, z', by omega, rfl, by omega, by omega, ⟨fun b hb => by rw [e9, zU_o hb]; exact hL8.1 b hb, fun j h1 h2 => by rw [e9, zU_n (by omega)]; exact hL8.2 j h1 h2⟩, ?_⟩, by omega⟩
        rw [e9, zU_s, hk8, hv, sumN_s]
        omega
      refine ⟨⟨by omega, by omega⟩, fun c1 => ?_, fun c1 => ?_⟩
      · have hv : (0 : Int) = sbG (rP X i) (fun k => Y (i + 14) k) (fun e => mHas a e) n z' q := by
          unfold sbG
          rw [if_neg (by rintro ⟨-, g, -⟩; exact absurd (c1.symm.trans g) (by decide))]
        exact ⟨⟨by omega, by omega⟩, ⟨by omega, by omega⟩, fun Y9 e9 r9 => fin 0 Y9 hv e9⟩
      · have ep : mPar X i q = rP X i q := rP_c (n := n - 1) (by rw [show ((n - 1 : Nat) : Int) = X i 27 - 1 by omega]; exact hB) (by omega) (by omega)
        rw [ep]
        refine ⟨⟨hB.1, by omega, by omega⟩, fun _ => ⟨fun c2 => ?_, fun c2 => ?_⟩⟩
        · have hv : (0 : Int) = sbG (rP X i) (fun k => Y (i + 14) k) (fun e => mHas a e) n z' q := by
            unfold sbG
            rw [if_neg (by rintro ⟨-, -, g⟩; omega)]
          exact ⟨⟨by omega, by omega⟩, ⟨by omega, by omega⟩, fun Y9 e9 r9 => fin 0 Y9 hv e9⟩
        · have hv : Y8 (i + 18) q = sbG (rP X i) (fun k => Y (i + 14) k) (fun e => mHas a e) n z' q := by
            rw [hL8.2 q (by omega) (by omega), eS]
            unfold sbG
            rw [if_pos ⟨by omega, c1, by omega⟩]
          exact ⟨⟨by omega, by omega⟩, ⟨by omega, by omega⟩, ⟨by rw [hv, hk8]; omega, by rw [hv, hk8]; omega⟩, fun Y9 e9 r9 => fin _ Y9 hv e9⟩
theorem c_X11_laySubtrees {l : Launch} {D : va_G} {cy : Nat → ClassId} {bs N : Nat} {sa : Nat → Nat} {kd len : Nat → Nat} {X Y : Nat → Int → Int} {R : Nat → Int → Option Nat} {i : Nat} (hM : zM N kd len R i) (a : Int) (ha : rI a) (hp : oW X Y i) : Met l yX11_laySubtrees (.code yX11_laySubtrees cX11_laySubtrees 4 none :: zTB) (zRm 2 43) (zPc D cy bs sa N kd len X Y R [.ref (bs + (i)), .int (zI (a))]) (zQv D cy bs N kd len (fun st => st.1 = X ∧ st.2.2 = R ∧ (lT X Y (st.2.1) i (a) 0))) 0 0 (zA bs) := w_X11_laySubtrees hM a ha (v_X11_laySubtrees a ha hp)
/-- the heaviest child -/
def aHc (P : Nat → Nat) (sb : Nat → Int) (w : Nat → Bool) (ah : Nat → Nat → Bool) (at_ : Nat) : Nat → Int
  | 0 => -1
  | n + 1 => if decide (at_ < n) && w n && decide (P n = at_) && (decide (aHc P sb w ah at_ n = -1) || decide (sb (aHc P sb w ah at_ n).toNat < sb n) || (decide (sb n = sb (aHc P sb w ah at_ n).toNat) && ah n (aHc P sb w ah at_ n).toNat)) then n else aHc P sb w ah at_ n
theorem aHc_b {P : Nat → Nat} {sb : Nat → Int} {w : Nat → Bool} {ah : Nat → Nat → Bool} {at_ : Nat} : ∀ n, aHc P sb w ah at_ n = -1 ∨ ((at_ : Int) < aHc P sb w ah at_ n ∧ aHc P sb w ah at_ n < n)
  | 0 => Or.inl rfl
  | n + 1 => by
    have ih := aHc_b (P := P) (sb := sb) (w := w) (ah := ah) (at_ := at_) n
    unfold aHc
    split
    · rename_i h
      simp only [Bool.and_eq_true, decide_eq_true_eq] at h
      exact Or.inr ⟨by omega, by omega⟩
    · rcases ih with h | h
      · exact Or.inl h
      · exact Or.inr ⟨h.1, by omega⟩
theorem aHc_no {P : Nat → Nat} {sb : Nat → Int} {w : Nat → Bool} {ah : Nat → Nat → Bool} {at_ : Nat} : ∀ n, n ≤ at_ + 1 → aHc P sb w ah at_ n = -1 := fun n h => by
  rcases aHc_b (P := P) (sb := sb) (w := w) (ah := ah) (at_ := at_) n with e | e
  · exact e
  · omega
def mHc (X Y : Nat → Int → Int) (i : Nat) (a : Nat) : Nat → Int := aHc (rP X i) (fun k => Y (i + 18) k) (mWh X i) (mAh9 X i) a
abbrev cX11_heavyChild : ByteArray := prog_13_method_59_code
def yX11_heavyChild : MethodName := ⟨RX11, "heavyChild", "(I)I"⟩
theorem dX11_heavyChild_0 : decode cX11_heavyChild 0 = .ok (.iconst (-1), 1) := by decide +kernel
theorem dX11_heavyChild_1 : decode cX11_heavyChild 1 = .ok (.istore_n 2, 1) := by decide +kernel
theorem dX11_heavyChild_2 : decode cX11_heavyChild 2 = .ok (.iload_n 1, 1) := by decide +kernel
theorem dX11_heavyChild_3 : decode cX11_heavyChild 3 = .ok (.iconst 1, 1) := by decide +kernel
theorem dX11_heavyChild_4 : decode cX11_heavyChild 4 = .ok (.iadd, 1) := by decide +kernel
theorem dX11_heavyChild_5 : decode cX11_heavyChild 5 = .ok (.istore_n 3, 1) := by decide +kernel
theorem dX11_heavyChild_6 : decode cX11_heavyChild 6 = .ok (.iload_n 3, 1) := by decide +kernel
theorem dX11_heavyChild_7 : decode cX11_heavyChild 7 = .ok (.aload_n 0, 1) := by decide +kernel
theorem dX11_heavyChild_8 : decode cX11_heavyChild 8 = .ok (.getfield 255, 3) := by decide +kernel
theorem dX11_heavyChild_11 : decode cX11_heavyChild 11 = .ok (.if_icmp .ge 93, 3) := by decide +kernel
theorem dX11_heavyChild_14 : decode cX11_heavyChild 14 = .ok (.aload_n 0, 1) := by decide +kernel
theorem dX11_heavyChild_15 : decode cX11_heavyChild 15 = .ok (.getfield 322, 3) := by decide +kernel
theorem dX11_heavyChild_18 : decode cX11_heavyChild 18 = .ok (.iload_n 3, 1) := by decide +kernel
theorem dX11_heavyChild_19 : decode cX11_heavyChild 19 = .ok (.invokestatic 92, 3) := by decide +kernel
theorem dX11_heavyChild_22 : decode cX11_heavyChild 22 = .ok (.ifCond .eq 76, 3) := by decide +kernel
theorem dX11_heavyChild_25 : decode cX11_heavyChild 25 = .ok (.aload_n 0, 1) := by decide +kernel
theorem dX11_heavyChild_26 : decode cX11_heavyChild 26 = .ok (.iload_n 3, 1) := by decide +kernel
theorem dX11_heavyChild_27 : decode cX11_heavyChild 27 = .ok (.invokevirtual 264, 3) := by decide +kernel
theorem dX11_heavyChild_30 : decode cX11_heavyChild 30 = .ok (.iload_n 1, 1) := by decide +kernel
theorem dX11_heavyChild_31 : decode cX11_heavyChild 31 = .ok (.if_icmp .ne 67, 3) := by decide +kernel
theorem dX11_heavyChild_34 : decode cX11_heavyChild 34 = .ok (.iload_n 2, 1) := by decide +kernel
theorem dX11_heavyChild_35 : decode cX11_heavyChild 35 = .ok (.iconst (-1), 1) := by decide +kernel
theorem dX11_heavyChild_36 : decode cX11_heavyChild 36 = .ok (.if_icmp .eq 44, 3) := by decide +kernel
theorem dX11_heavyChild_39 : decode cX11_heavyChild 39 = .ok (.aload_n 0, 1) := by decide +kernel
theorem dX11_heavyChild_40 : decode cX11_heavyChild 40 = .ok (.getfield 63, 3) := by decide +kernel
theorem dX11_heavyChild_43 : decode cX11_heavyChild 43 = .ok (.iload_n 3, 1) := by decide +kernel
theorem dX11_heavyChild_44 : decode cX11_heavyChild 44 = .ok (.laload, 1) := by decide +kernel
theorem dX11_heavyChild_45 : decode cX11_heavyChild 45 = .ok (.aload_n 0, 1) := by decide +kernel
theorem dX11_heavyChild_46 : decode cX11_heavyChild 46 = .ok (.getfield 63, 3) := by decide +kernel
theorem dX11_heavyChild_49 : decode cX11_heavyChild 49 = .ok (.iload_n 2, 1) := by decide +kernel
theorem dX11_heavyChild_50 : decode cX11_heavyChild 50 = .ok (.laload, 1) := by decide +kernel
theorem dX11_heavyChild_51 : decode cX11_heavyChild 51 = .ok (.lcmp, 1) := by decide +kernel
theorem dX11_heavyChild_52 : decode cX11_heavyChild 52 = .ok (.ifCond .gt 28, 3) := by decide +kernel
theorem dX11_heavyChild_55 : decode cX11_heavyChild 55 = .ok (.aload_n 0, 1) := by decide +kernel
theorem dX11_heavyChild_56 : decode cX11_heavyChild 56 = .ok (.getfield 63, 3) := by decide +kernel
theorem dX11_heavyChild_59 : decode cX11_heavyChild 59 = .ok (.iload_n 3, 1) := by decide +kernel
theorem dX11_heavyChild_60 : decode cX11_heavyChild 60 = .ok (.laload, 1) := by decide +kernel
theorem dX11_heavyChild_61 : decode cX11_heavyChild 61 = .ok (.aload_n 0, 1) := by decide +kernel
theorem dX11_heavyChild_62 : decode cX11_heavyChild 62 = .ok (.getfield 63, 3) := by decide +kernel
theorem dX11_heavyChild_65 : decode cX11_heavyChild 65 = .ok (.iload_n 2, 1) := by decide +kernel
theorem dX11_heavyChild_66 : decode cX11_heavyChild 66 = .ok (.laload, 1) := by decide +kernel
theorem dX11_heavyChild_67 : decode cX11_heavyChild 67 = .ok (.lcmp, 1) := by decide +kernel
theorem dX11_heavyChild_68 : decode cX11_heavyChild 68 = .ok (.ifCond .ne 16, 3) := by decide +kernel
theorem dX11_heavyChild_71 : decode cX11_heavyChild 71 = .ok (.aload_n 0, 1) := by decide +kernel
theorem dX11_heavyChild_72 : decode cX11_heavyChild 72 = .ok (.iload_n 3, 1) := by decide +kernel
theorem dX11_heavyChild_73 : decode cX11_heavyChild 73 = .ok (.iload_n 2, 1) := by decide +kernel
theorem dX11_heavyChild_74 : decode cX11_heavyChild 74 = .ok (.invokevirtual 328, 3) := by decide +kernel
theorem dX11_heavyChild_77 : decode cX11_heavyChild 77 = .ok (.ifCond .eq 7, 3) := by decide +kernel
theorem dX11_heavyChild_80 : decode cX11_heavyChild 80 = .ok (.iconst 1, 1) := by decide +kernel
theorem dX11_heavyChild_81 : decode cX11_heavyChild 81 = .ok (.goto 4, 3) := by decide +kernel
theorem dX11_heavyChild_84 : decode cX11_heavyChild 84 = .ok (.iconst 0, 1) := by decide +kernel
theorem dX11_heavyChild_85 : decode cX11_heavyChild 85 = .ok (.istore 4, 2) := by decide +kernel
theorem dX11_heavyChild_87 : decode cX11_heavyChild 87 = .ok (.iload 4, 2) := by decide +kernel
theorem dX11_heavyChild_89 : decode cX11_heavyChild 89 = .ok (.ifCond .eq 7, 3) := by decide +kernel
theorem dX11_heavyChild_92 : decode cX11_heavyChild 92 = .ok (.iload_n 3, 1) := by decide +kernel
theorem dX11_heavyChild_93 : decode cX11_heavyChild 93 = .ok (.goto 4, 3) := by decide +kernel
theorem dX11_heavyChild_96 : decode cX11_heavyChild 96 = .ok (.iload_n 2, 1) := by decide +kernel
theorem dX11_heavyChild_97 : decode cX11_heavyChild 97 = .ok (.istore_n 2, 1) := by decide +kernel
theorem dX11_heavyChild_98 : decode cX11_heavyChild 98 = .ok (.iinc 3 1, 3) := by decide +kernel
theorem dX11_heavyChild_101 : decode cX11_heavyChild 101 = .ok (.goto (-95), 3) := by decide +kernel
theorem dX11_heavyChild_104 : decode cX11_heavyChild 104 = .ok (.iload_n 2, 1) := by decide +kernel
theorem dX11_heavyChild_105 : decode cX11_heavyChild 105 = .ok (.ireturn, 1) := by decide +kernel
def F_X11_heavyChild (i : Nat) (X Y : Nat → Int → Int) (R : Nat → Int → Option Nat) (a : Int) : Prop := (∀ i j, rI (X i j)) → (∀ i j, rL (Y i j)) → (rI (a + 1)) ∧ (∃ q : Nat, a + 1 = q ∧ a < q ∧ a + 1 ≤ X i 27 ∧ (-1 : Int) = mHc X Y i a.toNat q) ∧ (∀ (best : Int) (k : Int), rI best → rI k → (∃ q : Nat, k = q ∧ a < q ∧ k ≤ X i 27 ∧ best = mHc X Y i a.toNat q) → ((((X (i) 27) ≤ k) → (best = mHc X Y i (a).toNat (X i 27).toNat)) ∧ ((¬ ((X (i) 27) ≤ k)) → ((((mHas (X (i) 36) (k)) = false) → ((rI (k + 1)) ∧ (∃ q : Nat, k + 1 = q ∧ a < q ∧ k + 1 ≤ X i 27 ∧ best = mHc X Y i a.toNat q) ∧ (((X i 27 - (k + 1)).toNat) < ((X i 27 - (k)).toNat)))) ∧ (((mHas (X (i) 36) (k)) = true) → ((oC X i ∧ 0 ≤ k ∧ k ≤ 14) ∧ (rI (mPar X i (k)) → (((¬ (mPar X i (k)) = a) → ((rI (k + 1)) ∧ (∃ q : Nat, k + 1 = q ∧ a < q ∧ k + 1 ≤ X i 27 ∧ best = mHc X Y i a.toNat q) ∧ (((X i 27 - (k + 1)).toNat) < ((X i 27 - (k)).toNat)))) ∧ ((¬ (¬ (mPar X i (k)) = a)) → (((best = (-1)) → ((rI (k + 1)) ∧ (∃ q : Nat, k + 1 = q ∧ a < q ∧ k + 1 ≤ X i 27 ∧ k = mHc X Y i a.toNat q) ∧ (((X i 27 - (k + 1)).toNat) < ((X i 27 - (k)).toNat)))) ∧ ((¬ (best = (-1))) → ((0 ≤ k ∧ k < 15) ∧ ((0 ≤ best ∧ best < 15) ∧ ((((Y (i + 18) (best)) < (Y (i + 18) (k))) → ((rI (k + 1)) ∧ (∃ q : Nat, k + 1 = q ∧ a < q ∧ k + 1 ≤ X i 27 ∧ k = mHc X Y i a.toNat q) ∧ (((X i 27 - (k + 1)).toNat) < ((X i 27 - (k)).toNat)))) ∧ ((¬ ((Y (i + 18) (best)) < (Y (i + 18) (k)))) → ((0 ≤ k ∧ k < 15) ∧ ((0 ≤ best ∧ best < 15) ∧ (((¬ (Y (i + 18) (k)) = (Y (i + 18) (best))) → ((rI (k + 1)) ∧ (∃ q : Nat, k + 1 = q ∧ a < q ∧ k + 1 ≤ X i 27 ∧ best = mHc X Y i a.toNat q) ∧ (((X i 27 - (k + 1)).toNat) < ((X i 27 - (k)).toNat)))) ∧ ((¬ (¬ (Y (i + 18) (k)) = (Y (i + 18) (best)))) → (((0 ≤ k ∧ k ≤ 14) ∧ (0 ≤ best ∧ best ≤ 14)) ∧ ((((mAhd X i (k) (best)) = false) → ((rI (k + 1)) ∧ (∃ q : Nat, k + 1 = q ∧ a < q ∧ k + 1 ≤ X i 27 ∧ best = mHc X Y i a.toNat q) ∧ (((X i 27 - (k + 1)).toNat) < ((X i 27 - (k)).toNat)))) ∧ (((mAhd X i (k) (best)) = true) → ((rI (k + 1)) ∧ (∃ q : Nat, k + 1 = q ∧ a < q ∧ k + 1 ≤ X i 27 ∧ k = mHc X Y i a.toNat q) ∧ (((X i 27 - (k + 1)).toNat) < ((X i 27 - (k)).toNat)))))))))))))))))))))))))
set_option maxHeartbeats 4000000 in
set_option maxRecDepth 100000 in
theorem w_X11_heavyChild {l : Launch} {D : va_G} {cy : Nat → ClassId} {bs N : Nat} {sa : Nat → Nat} {kd len : Nat → Nat} {X Y : Nat → Int → Int} {R : Nat → Int → Option Nat} {i : Nat} (hM : zM N kd len R i) (a : Int) (ha : rI a) (hF : F_X11_heavyChild i X Y R a) : Met l yX11_heavyChild (.code yX11_heavyChild cX11_heavyChild 5 (some .int) :: zTB) (zRm 2 43) (zPc D cy bs sa N kd len X Y R [.ref (bs + (i)), .int (zI (a))]) (zQi D cy bs N kd len (fun r st => r = mHc X Y i (a).toNat (X i 27).toNat ∧ st = (X, Y, R))) 0 0 (zA bs) := by
  refine zstart (by decide) (Nat.le_of_ble_eq_true rfl) ?_
  intro p e s m args below meth c ls C hE hH hr hlk hnm hl hargs
  have hF := hF hH.2.2.1 hH.2.2.2
  have hS : va_S (zA bs) s.heap s.heap [] := va_S.rf
  have hl : lv_has ls 5 [(0, .ref (bs + (i))), (1, .int (zI (a)))] := hl
  refine zd_iconst C dX11_heavyChild_0 ?_
  refine lv_istore_n (lv' := [(2, .int (zI ((-1)))), (0, .ref (bs + (i))), (1, .int (zI (a)))]) C.1 C.2.1 dX11_heavyChild_1 rfl hl (by decide) rfl (fun ls hl => ?_)
  refine lv_iload_n C.1 C.2.1 dX11_heavyChild_2 rfl (lv_at hl 2 rfl) ?_
  refine zd_iconst C dX11_heavyChild_3 ?_
  refine zd_iadd C dX11_heavyChild_4 ?_
  refine lv_istore_n (lv' := [(3, .int (zI (a + 1))), (2, .int (zI ((-1)))), (0, .ref (bs + (i))), (1, .int (zI (a)))]) C.1 C.2.1 dX11_heavyChild_5 rfl hl (by decide) rfl (fun ls hl => ?_)
  obtain ⟨o28, hF⟩ := hF
  obtain ⟨hI1, hF⟩ := hF
  have L1 : ∀ (fu : Nat) (best : Int) (k : Int), rI best → rI k → (∃ q : Nat, k = q ∧ a < q ∧ k ≤ X i 27 ∧ best = mHc X Y i a.toNat q) → ((X i 27 - (k)).toNat) < fu → ∀ (H : Heap) (locs : List Loc) (ls : Array Slot), zH D cy bs N kd len X Y R H → va_S (zA bs) s.heap H locs → lv_has ls 5 [(2, .int (zI (best))), (3, .int (zI (k))), (0, .ref (bs + (i))), (1, .int (zI (a)))] → W p l e (zRm 2 43) s m args below meth c H locs 0 0 (MQ below (zQi D cy bs N kd len (fun r st => r = mHc X Y i (a).toNat (X i 27).toNat ∧ st = (X, Y, R))) args s 0 0 (zA bs)) (F0 m 6 ls []) := by
    intro fu
    induction fu with
    | zero => intro best k _ _ _ hmu; exact absurd hmu (Nat.not_lt_zero _)
    | succ fu ih1 =>
      intro best k hbest hk hI hmu1 H locs ls hH hS hl
      have hF := hF best k hbest hk  hI
      refine lv_iload_n C.1 C.2.1 dX11_heavyChild_6 rfl (lv_at hl 1 rfl) ?_
      refine lv_aload_n C.1 C.2.1 dX11_heavyChild_7 rfl (lv_at hl 2 rfl) ?_
      refine zg11_27 C hH (zM_n0 hM) (zM_k0 hM) q_1314 dX11_heavyChild_8 ?_
      refine zd_icmp_ge C hk (hH.2.2.1 _ _) 104 dX11_heavyChild_11 (by decide) (fun c2 => ?_) (fun c2 => ?_)
      · have hF := hF.1 c2
        refine lv_iload_n C.1 C.2.1 dX11_heavyChild_104 rfl (lv_at hl 0 rfl) ?_
        exact zd_iret C hr hlk hH hS hbest (⟨hF, rfl⟩) dX11_heavyChild_105
      · have hF := hF.2 c2
        refine lv_aload_n C.1 C.2.1 dX11_heavyChild_14 rfl (lv_at hl 2 rfl) ?_
        refine zg11_36 C hH (zM_n0 hM) (zM_k0 hM) q_1323 dX11_heavyChild_15 ?_
        refine lv_iload_n C.1 C.2.1 dX11_heavyChild_18 rfl (lv_at hl 1 rfl) ?_
        refine zgoi (zrunS (As := [.int (zI (X (i) 36)), .int (zI (k))]) (rest := []) C hE hH hS hl.1 (c_X11_has (l := l)  (X (i) 36) (hH.2.2.1 _ _) (k) hk) k_RX11_92 ⟨Nat.le_of_ble_eq_true rfl, Nat.le_of_ble_eq_true rfl⟩ rfl (Nat.le_of_ble_eq_true rfl) dX11_heavyChild_19 ⟨Nat.zero_le _, Nat.zero_le _⟩) hS (fun rq Xq Yq Rq H locs hrq hq hH hS => ?_)
        obtain ⟨h91, h92⟩ := hq
        have h93 : Xq = X := congrArg (fun z => z.1) h92
        have h94 : Yq = Y := congrArg (fun z => z.2.1) h92
        have h95 : Rq = R := congrArg (fun z => z.2.2) h92
        rw [h93, h94, h95] at hH
        subst h91
        refine zd_ifB_eq C 98 dX11_heavyChild_22 (by decide) (fun c3 => ?_) (fun c3 => ?_)
        · have hF := hF.1 c3
          refine zd_iinc (k := 1) (lv' := [(3, .int (zI (k + 1))), (2, .int (zI (best))), (0, .ref (bs + (i))), (1, .int (zI (a)))]) C hl rfl dX11_heavyChild_98 (by decide) rfl (fun ls hl => ?_)
          refine lv_goto (tgt := 6) C.1 C.2.1 dX11_heavyChild_101 (by decide) ?_
          obtain ⟨o4, hF⟩ := hF
          exact ih1 (best) (k + 1) hbest o4 hF.1 (Nat.lt_of_lt_of_le hF.2 (Nat.le_of_lt_succ hmu1)) _ _ _ hH hS (lv_sub hl [1, 0, 2, 3] rfl)
        · have hF := hF.2 c3
          refine lv_aload_n C.1 C.2.1 dX11_heavyChild_25 rfl (lv_at hl 2 rfl) ?_
          refine lv_iload_n C.1 C.2.1 dX11_heavyChild_26 rfl (lv_at hl 1 rfl) ?_
          obtain ⟨o5, hF⟩ := hF
          refine zgoi (zrunV (As := [.int (zI (k))]) (rest := []) C hE hH hS hl.1 (c_X11_parentOf (l := l) hM (k) hk o5) k_RX11_264 ⟨Nat.le_of_ble_eq_true rfl, Nat.le_of_ble_eq_true rfl⟩ (zM_n0 hM) (zM_k0 hM) rfl rfl rfl (Nat.le_of_ble_eq_true rfl) dX11_heavyChild_27 ⟨Nat.zero_le _, Nat.zero_le _⟩) hS (fun rq Xq Yq Rq H locs hrq hq hH hS => ?_)
          obtain ⟨h91, h92⟩ := hq
          have h93 : Xq = X := congrArg (fun z => z.1) h92
          have h94 : Yq = Y := congrArg (fun z => z.2.1) h92
          have h95 : Rq = R := congrArg (fun z => z.2.2) h92
          rw [h93, h94, h95] at hH
          subst h91
          have hr6 := hrq
          have hF := hF hr6
          refine lv_iload_n C.1 C.2.1 dX11_heavyChild_30 rfl (lv_at hl 3 rfl) ?_
          refine zd_icmp_ne C hr6 ha 98 dX11_heavyChild_31 (by decide) (fun c7 => ?_) (fun c7 => ?_)
          · have hF := hF.1 c7
            refine zd_iinc (k := 1) (lv' := [(3, .int (zI (k + 1))), (2, .int (zI (best))), (0, .ref (bs + (i))), (1, .int (zI (a)))]) C hl rfl dX11_heavyChild_98 (by decide) rfl (fun ls hl => ?_)
            refine lv_goto (tgt := 6) C.1 C.2.1 dX11_heavyChild_101 (by decide) ?_
            obtain ⟨o8, hF⟩ := hF
            exact ih1 (best) (k + 1) hbest o8 hF.1 (Nat.lt_of_lt_of_le hF.2 (Nat.le_of_lt_succ hmu1)) _ _ _ hH hS (lv_sub hl [1, 0, 2, 3] rfl)
          · have hF := hF.2 c7
            refine lv_iload_n C.1 C.2.1 dX11_heavyChild_34 rfl (lv_at hl 0 rfl) ?_
            refine zd_iconst C dX11_heavyChild_35 ?_
            refine zd_icmp_eq C hbest (by decide) 80 dX11_heavyChild_36 (by decide) (fun c9 => ?_) (fun c9 => ?_)
            · have hF := hF.1 c9
              refine zd_iconst C dX11_heavyChild_80 ?_
              refine lv_goto (tgt := 85) C.1 C.2.1 dX11_heavyChild_81 (by decide) ?_
              refine lv_istore (lv' := [(4, .int (zI (1))), (2, .int (zI (best))), (3, .int (zI (k))), (0, .ref (bs + (i))), (1, .int (zI (a)))]) C.1 C.2.1 dX11_heavyChild_85 hl (by decide) rfl (fun ls hl => ?_)
              refine lv_iload C.1 C.2.1 dX11_heavyChild_87 (lv_at hl 0 rfl) ?_
              refine zd_if_eq C (by decide) 96 dX11_heavyChild_89 (by decide) (fun c10 => ?_) (fun c10 => ?_)
              · exact absurd c10 (by decide)
              · refine lv_iload_n C.1 C.2.1 dX11_heavyChild_92 rfl (lv_at hl 2 rfl) ?_
                refine lv_goto (tgt := 97) C.1 C.2.1 dX11_heavyChild_93 (by decide) ?_
                refine lv_istore_n (lv' := [(2, .int (zI (k))), (4, .int (zI (1))), (3, .int (zI (k))), (0, .ref (bs + (i))), (1, .int (zI (a)))]) C.1 C.2.1 dX11_heavyChild_97 rfl hl (by decide) rfl (fun ls hl => ?_)
                refine zd_iinc (k := 2) (lv' := [(3, .int (zI (k + 1))), (2, .int (zI (k))), (4, .int (zI (1))), (0, .ref (bs + (i))), (1, .int (zI (a)))]) C hl rfl dX11_heavyChild_98 (by decide) rfl (fun ls hl => ?_)
                refine lv_goto (tgt := 6) C.1 C.2.1 dX11_heavyChild_101 (by decide) ?_
                obtain ⟨o11, hF⟩ := hF
                exact ih1 (k) (k + 1) hk o11 hF.1 (Nat.lt_of_lt_of_le hF.2 (Nat.le_of_lt_succ hmu1)) _ _ _ hH hS (lv_sub hl [1, 0, 3, 4] rfl)
            · have hF := hF.2 c9
              refine lv_aload_n C.1 C.2.1 dX11_heavyChild_39 rfl (lv_at hl 2 rfl) ?_
              refine zg11_39 C hH (zM_n0 hM) (zM_k0 hM) q_1326 (zM_r18 hM) dX11_heavyChild_40 ?_
              refine lv_iload_n C.1 C.2.1 dX11_heavyChild_43 rfl (lv_at hl 1 rfl) ?_
              obtain ⟨o12, hF⟩ := hF
              refine zd_lald C hH (zM_n18 hM) (zM_k18 hM) o12.1 (by rw [zM_l18 hM]; exact o12.2) (by rw [zM_l18 hM]; decide) dX11_heavyChild_44 ?_
              refine lv_aload_n C.1 C.2.1 dX11_heavyChild_45 rfl (lv_at hl 2 rfl) ?_
              refine zg11_39 C hH (zM_n0 hM) (zM_k0 hM) q_1326 (zM_r18 hM) dX11_heavyChild_46 ?_
              refine lv_iload_n C.1 C.2.1 dX11_heavyChild_49 rfl (lv_at hl 0 rfl) ?_
              obtain ⟨o13, hF⟩ := hF
              refine zd_lald C hH (zM_n18 hM) (zM_k18 hM) o13.1 (by rw [zM_l18 hM]; exact o13.2) (by rw [zM_l18 hM]; decide) dX11_heavyChild_50 ?_
              refine zd_lcmp C (hH.2.2.2 _ _) (hH.2.2.2 _ _) dX11_heavyChild_51 ?_
              refine zd_ifL_gt C 80 dX11_heavyChild_52 (by decide) (fun c14 => ?_) (fun c14 => ?_)
              · have hF := hF.1 c14
                refine zd_iconst C dX11_heavyChild_80 ?_
                refine lv_goto (tgt := 85) C.1 C.2.1 dX11_heavyChild_81 (by decide) ?_
                refine lv_istore (lv' := [(4, .int (zI (1))), (2, .int (zI (best))), (3, .int (zI (k))), (0, .ref (bs + (i))), (1, .int (zI (a)))]) C.1 C.2.1 dX11_heavyChild_85 hl (by decide) rfl (fun ls hl => ?_)
                refine lv_iload C.1 C.2.1 dX11_heavyChild_87 (lv_at hl 0 rfl) ?_
                refine zd_if_eq C (by decide) 96 dX11_heavyChild_89 (by decide) (fun c15 => ?_) (fun c15 => ?_)
                · exact absurd c15 (by decide)
                · refine lv_iload_n C.1 C.2.1 dX11_heavyChild_92 rfl (lv_at hl 2 rfl) ?_
                  refine lv_goto (tgt := 97) C.1 C.2.1 dX11_heavyChild_93 (by decide) ?_
                  refine lv_istore_n (lv' := [(2, .int (zI (k))), (4, .int (zI (1))), (3, .int (zI (k))), (0, .ref (bs + (i))), (1, .int (zI (a)))]) C.1 C.2.1 dX11_heavyChild_97 rfl hl (by decide) rfl (fun ls hl => ?_)
                  refine zd_iinc (k := 2) (lv' := [(3, .int (zI (k + 1))), (2, .int (zI (k))), (4, .int (zI (1))), (0, .ref (bs + (i))), (1, .int (zI (a)))]) C hl rfl dX11_heavyChild_98 (by decide) rfl (fun ls hl => ?_)
                  refine lv_goto (tgt := 6) C.1 C.2.1 dX11_heavyChild_101 (by decide) ?_
                  obtain ⟨o16, hF⟩ := hF
                  exact ih1 (k) (k + 1) hk o16 hF.1 (Nat.lt_of_lt_of_le hF.2 (Nat.le_of_lt_succ hmu1)) _ _ _ hH hS (lv_sub hl [1, 0, 3, 4] rfl)
              · have hF := hF.2 c14
                refine lv_aload_n C.1 C.2.1 dX11_heavyChild_55 rfl (lv_at hl 2 rfl) ?_
                refine zg11_39 C hH (zM_n0 hM) (zM_k0 hM) q_1326 (zM_r18 hM) dX11_heavyChild_56 ?_
                refine lv_iload_n C.1 C.2.1 dX11_heavyChild_59 rfl (lv_at hl 1 rfl) ?_
                obtain ⟨o17, hF⟩ := hF
                refine zd_lald C hH (zM_n18 hM) (zM_k18 hM) o17.1 (by rw [zM_l18 hM]; exact o17.2) (by rw [zM_l18 hM]; decide) dX11_heavyChild_60 ?_
                refine lv_aload_n C.1 C.2.1 dX11_heavyChild_61 rfl (lv_at hl 2 rfl) ?_
                refine zg11_39 C hH (zM_n0 hM) (zM_k0 hM) q_1326 (zM_r18 hM) dX11_heavyChild_62 ?_
                refine lv_iload_n C.1 C.2.1 dX11_heavyChild_65 rfl (lv_at hl 0 rfl) ?_
                obtain ⟨o18, hF⟩ := hF
                refine zd_lald C hH (zM_n18 hM) (zM_k18 hM) o18.1 (by rw [zM_l18 hM]; exact o18.2) (by rw [zM_l18 hM]; decide) dX11_heavyChild_66 ?_
                refine zd_lcmp C (hH.2.2.2 _ _) (hH.2.2.2 _ _) dX11_heavyChild_67 ?_
                refine zd_ifL_ne C 84 dX11_heavyChild_68 (by decide) (fun c19 => ?_) (fun c19 => ?_)
                · have hF := hF.1 c19
                  refine zd_iconst C dX11_heavyChild_84 ?_
                  refine lv_istore (lv' := [(4, .int (zI (0))), (2, .int (zI (best))), (3, .int (zI (k))), (0, .ref (bs + (i))), (1, .int (zI (a)))]) C.1 C.2.1 dX11_heavyChild_85 hl (by decide) rfl (fun ls hl => ?_)
                  refine lv_iload C.1 C.2.1 dX11_heavyChild_87 (lv_at hl 0 rfl) ?_
                  refine zd_if_eq C (by decide) 96 dX11_heavyChild_89 (by decide) (fun c20 => ?_) (fun c20 => ?_)
                  · refine lv_iload_n C.1 C.2.1 dX11_heavyChild_96 rfl (lv_at hl 1 rfl) ?_
                    refine lv_istore_n (lv' := [(2, .int (zI (best))), (4, .int (zI (0))), (3, .int (zI (k))), (0, .ref (bs + (i))), (1, .int (zI (a)))]) C.1 C.2.1 dX11_heavyChild_97 rfl hl (by decide) rfl (fun ls hl => ?_)
                    refine zd_iinc (k := 2) (lv' := [(3, .int (zI (k + 1))), (2, .int (zI (best))), (4, .int (zI (0))), (0, .ref (bs + (i))), (1, .int (zI (a)))]) C hl rfl dX11_heavyChild_98 (by decide) rfl (fun ls hl => ?_)
                    refine lv_goto (tgt := 6) C.1 C.2.1 dX11_heavyChild_101 (by decide) ?_
                    obtain ⟨o21, hF⟩ := hF
                    exact ih1 (best) (k + 1) hbest o21 hF.1 (Nat.lt_of_lt_of_le hF.2 (Nat.le_of_lt_succ hmu1)) _ _ _ hH hS (lv_sub hl [1, 0, 3, 4] rfl)
                  · exact absurd (by decide) c20
                · have hF := hF.2 c19
                  refine lv_aload_n C.1 C.2.1 dX11_heavyChild_71 rfl (lv_at hl 2 rfl) ?_
                  refine lv_iload_n C.1 C.2.1 dX11_heavyChild_72 rfl (lv_at hl 1 rfl) ?_
                  refine lv_iload_n C.1 C.2.1 dX11_heavyChild_73 rfl (lv_at hl 0 rfl) ?_
                  obtain ⟨o22, hF⟩ := hF
                  refine zgoi (zrunV (As := [.int (zI (k)), .int (zI (best))]) (rest := []) C hE hH hS hl.1 (c_X11_isAhead (l := l) hM (k) hk (best) hbest o22) k_RX11_328 ⟨Nat.le_of_ble_eq_true rfl, Nat.le_of_ble_eq_true rfl⟩ (zM_n0 hM) (zM_k0 hM) rfl rfl rfl (Nat.le_of_ble_eq_true rfl) dX11_heavyChild_74 ⟨Nat.zero_le _, Nat.zero_le _⟩) hS (fun rq Xq Yq Rq H locs hrq hq hH hS => ?_)
                  obtain ⟨h91, h92⟩ := hq
                  have h93 : Xq = X := congrArg (fun z => z.1) h92
                  have h94 : Yq = Y := congrArg (fun z => z.2.1) h92
                  have h95 : Rq = R := congrArg (fun z => z.2.2) h92
                  rw [h93, h94, h95] at hH
                  subst h91
                  refine zd_ifB_eq C 84 dX11_heavyChild_77 (by decide) (fun c23 => ?_) (fun c23 => ?_)
                  · have hF := hF.1 c23
                    refine zd_iconst C dX11_heavyChild_84 ?_
                    refine lv_istore (lv' := [(4, .int (zI (0))), (2, .int (zI (best))), (3, .int (zI (k))), (0, .ref (bs + (i))), (1, .int (zI (a)))]) C.1 C.2.1 dX11_heavyChild_85 hl (by decide) rfl (fun ls hl => ?_)
                    refine lv_iload C.1 C.2.1 dX11_heavyChild_87 (lv_at hl 0 rfl) ?_
                    refine zd_if_eq C (by decide) 96 dX11_heavyChild_89 (by decide) (fun c24 => ?_) (fun c24 => ?_)
                    · refine lv_iload_n C.1 C.2.1 dX11_heavyChild_96 rfl (lv_at hl 1 rfl) ?_
                      refine lv_istore_n (lv' := [(2, .int (zI (best))), (4, .int (zI (0))), (3, .int (zI (k))), (0, .ref (bs + (i))), (1, .int (zI (a)))]) C.1 C.2.1 dX11_heavyChild_97 rfl hl (by decide) rfl (fun ls hl => ?_)
                      refine zd_iinc (k := 2) (lv' := [(3, .int (zI (k + 1))), (2, .int (zI (best))), (4, .int (zI (0))), (0, .ref (bs + (i))), (1, .int (zI (a)))]) C hl rfl dX11_heavyChild_98 (by decide) rfl (fun ls hl => ?_)
                      refine lv_goto (tgt := 6) C.1 C.2.1 dX11_heavyChild_101 (by decide) ?_
                      obtain ⟨o25, hF⟩ := hF
                      exact ih1 (best) (k + 1) hbest o25 hF.1 (Nat.lt_of_lt_of_le hF.2 (Nat.le_of_lt_succ hmu1)) _ _ _ hH hS (lv_sub hl [1, 0, 3, 4] rfl)
                    · exact absurd (by decide) c24
                  · have hF := hF.2 c23
                    refine zd_iconst C dX11_heavyChild_80 ?_
                    refine lv_goto (tgt := 85) C.1 C.2.1 dX11_heavyChild_81 (by decide) ?_
                    refine lv_istore (lv' := [(4, .int (zI (1))), (2, .int (zI (best))), (3, .int (zI (k))), (0, .ref (bs + (i))), (1, .int (zI (a)))]) C.1 C.2.1 dX11_heavyChild_85 hl (by decide) rfl (fun ls hl => ?_)
                    refine lv_iload C.1 C.2.1 dX11_heavyChild_87 (lv_at hl 0 rfl) ?_
                    refine zd_if_eq C (by decide) 96 dX11_heavyChild_89 (by decide) (fun c26 => ?_) (fun c26 => ?_)
                    · exact absurd c26 (by decide)
                    · refine lv_iload_n C.1 C.2.1 dX11_heavyChild_92 rfl (lv_at hl 2 rfl) ?_
                      refine lv_goto (tgt := 97) C.1 C.2.1 dX11_heavyChild_93 (by decide) ?_
                      refine lv_istore_n (lv' := [(2, .int (zI (k))), (4, .int (zI (1))), (3, .int (zI (k))), (0, .ref (bs + (i))), (1, .int (zI (a)))]) C.1 C.2.1 dX11_heavyChild_97 rfl hl (by decide) rfl (fun ls hl => ?_)
                      refine zd_iinc (k := 2) (lv' := [(3, .int (zI (k + 1))), (2, .int (zI (k))), (4, .int (zI (1))), (0, .ref (bs + (i))), (1, .int (zI (a)))]) C hl rfl dX11_heavyChild_98 (by decide) rfl (fun ls hl => ?_)
                      refine lv_goto (tgt := 6) C.1 C.2.1 dX11_heavyChild_101 (by decide) ?_
                      obtain ⟨o27, hF⟩ := hF
                      exact ih1 (k) (k + 1) hk o27 hF.1 (Nat.lt_of_lt_of_le hF.2 (Nat.le_of_lt_succ hmu1)) _ _ _ hH hS (lv_sub hl [1, 0, 3, 4] rfl)
  exact L1 (((X i 27 - (a + 1)).toNat) + 1) ((-1 : Int)) (a + 1) (by decide) o28 hI1 (Nat.lt_succ_self _) _ _ _ hH hS (lv_sub hl [1, 0, 2, 3] rfl)
theorem v_X11_heavyChild {X Y : Nat → Int → Int} {R : Nat → Int → Option Nat} {i : Nat} (a : Int) (ha : rI a) (hp : (1 ≤ X i 27 ∧ X i 27 ≤ 15) ∧ oB X i (X i 27 - 1) ∧ 0 ≤ a ∧ a < X i 27) : F_X11_heavyChild i X Y R a := by
  unfold F_X11_heavyChild
  intro hX hY
  obtain ⟨hb, hB, h0, h1⟩ := hp
  obtain ⟨p, rfl⟩ : ∃ p : Nat, a = p := ⟨a.toNat, by omega⟩
  rw [Int.toNat_natCast]
  refine ⟨⟨by omega, by omega⟩, ⟨p + 1, by omega, by omega, by omega, (aHc_no _ (Nat.le_refl _)).symm⟩, ?_⟩
  rintro best k rb rk ⟨q, rfl, hq, hq2, rfl⟩
  have hbb := aHc_b (P := rP X i) (sb := fun k => Y (i + 18) k) (w := mWh X i) (ah := mAh9 X i) (at_ := p) q
  have hbb : mHc X Y i p q = -1 ∨ ((p : Int) < mHc X Y i p q ∧ mHc X Y i p q < q) := hbb
  refine ⟨fun h => by rw [show (X i 27).toNat = q by omega], fun h => ?_⟩
  have ep : mPar X i q = rP X i q := rP_c (n := (X i 27).toNat - 1) (by rw [show (((X i 27).toNat - 1 : Nat) : Int) = X i 27 - 1 by omega]; exact hB) (by omega) (by omega)
  have es : mHc X Y i p (q + 1) = if decide (p < q) && mHas (X i 36) q && decide (rP X i q = p) && (decide (mHc X Y i p q = -1) || decide (Y (i + 18) ((mHc X Y i p q).toNat : Nat) < Y (i + 18) q) || (decide (Y (i + 18) q = Y (i + 18) ((mHc X Y i p q).toNat : Nat)) && mAhd X i q ((mHc X Y i p q).toNat : Nat))) then (q : Int) else mHc X Y i p q := rfl
  rw [decide_eq_true (show p < q by omega)] at es
  have fin : ∀ r : Int, mHc X Y i p (q + 1) = r → (rI ((q : Int) + 1)) ∧ (∃ z : Nat, (q : Int) + 1 = z ∧ (p : Int) < z ∧ (q : Int) + 1 ≤ X i 27 ∧ r = mHc X Y i p z) ∧ ((X i 27 - ((q : Int) + 1)).toNat < (X i 27 - q).toNat) := fun r hr => ⟨⟨by omega, by omega⟩, ⟨q + 1, by omega, by omega, by omega, by rw [hr]⟩, by omega⟩
  rw [ep]
  refine ⟨fun c1 => fin _ (by rw [es, c1]; rfl), fun c1 => ⟨⟨hB.1, by omega, by omega⟩, fun _ => ⟨fun c2 => fin _ (by rw [es, decide_eq_false (show ¬ rP X i q = p by omega), Bool.and_false, Bool.false_and]; rfl), fun c2 => ?_⟩⟩⟩
  rw [c1, decide_eq_true (show rP X i q = p by omega)] at es
  refine ⟨fun c3 => fin _ (by rw [es, decide_eq_true c3]; rfl), fun c3 => ?_⟩
  have eb : (((mHc X Y i p q).toNat : Nat) : Int) = mHc X Y i p q := by omega
  rw [eb, decide_eq_false c3] at es
  refine ⟨⟨by omega, by omega⟩, ⟨by omega, by omega⟩, fun c4 => fin _ (by rw [es, decide_eq_true c4]; rfl), fun c4 => ⟨⟨by omega, by omega⟩, ⟨by omega, by omega⟩, fun c5 => fin _ (by rw [es, decide_eq_false c4, decide_eq_false c5]; rfl), fun c5 => ⟨⟨⟨by omega, by omega⟩, ⟨by omega, by omega⟩⟩, fun c6 => fin _ (by rw [es, decide_eq_false c4, c6, Bool.and_false]; rfl), fun c6 => fin _ (by rw [es, decide_eq_false c4, c6, decide_eq_true (Decidable.not_not.mp c5)]; rfl)⟩⟩⟩
theorem c_X11_heavyChild {l : Launch} {D : va_G} {cy : Nat → ClassId} {bs N : Nat} {sa : Nat → Nat} {kd len : Nat → Nat} {X Y : Nat → Int → Int} {R : Nat → Int → Option Nat} {i : Nat} (hM : zM N kd len R i) (a : Int) (ha : rI a) (hp : (1 ≤ X i 27 ∧ X i 27 ≤ 15) ∧ oB X i (X i 27 - 1) ∧ 0 ≤ a ∧ a < X i 27) : Met l yX11_heavyChild (.code yX11_heavyChild cX11_heavyChild 5 (some .int) :: zTB) (zRm 2 43) (zPc D cy bs sa N kd len X Y R [.ref (bs + (i)), .int (zI (a))]) (zQi D cy bs N kd len (fun r st => r = mHc X Y i (a).toNat (X i 27).toNat ∧ st = (X, Y, R))) 0 0 (zA bs) := w_X11_heavyChild hM a ha (v_X11_heavyChild a ha hp)
