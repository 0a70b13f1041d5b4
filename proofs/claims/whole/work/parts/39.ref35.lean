/-! PURSES -/
def oPu (X : Nat → Int → Int) (i : Nat) (B : Int) : Prop := ∀ z, 0 ≤ z → z < 6 → 0 ≤ X (i + 19) z ∧ X (i + 19) z ≤ B
abbrev cX11_openPurse : ByteArray := prog_13_method_87_code
def yX11_openPurse : MethodName := ⟨RX11, "openPurse", "(I)V"⟩
theorem dX11_openPurse_0 : decode cX11_openPurse 0 = .ok (.iconst 0, 1) := by decide +kernel
theorem dX11_openPurse_1 : decode cX11_openPurse 1 = .ok (.istore_n 2, 1) := by decide +kernel
theorem dX11_openPurse_2 : decode cX11_openPurse 2 = .ok (.iload_n 2, 1) := by decide +kernel
theorem dX11_openPurse_3 : decode cX11_openPurse 3 = .ok (.bipush 6, 2) := by decide +kernel
theorem dX11_openPurse_5 : decode cX11_openPurse 5 = .ok (.if_icmp .ge 26, 3) := by decide +kernel
theorem dX11_openPurse_8 : decode cX11_openPurse 8 = .ok (.aload_n 0, 1) := by decide +kernel
theorem dX11_openPurse_9 : decode cX11_openPurse 9 = .ok (.getfield 66, 3) := by decide +kernel
theorem dX11_openPurse_12 : decode cX11_openPurse 12 = .ok (.iload_n 2, 1) := by decide +kernel
theorem dX11_openPurse_13 : decode cX11_openPurse 13 = .ok (.aload_n 0, 1) := by decide +kernel
theorem dX11_openPurse_14 : decode cX11_openPurse 14 = .ok (.getfield 57, 3) := by decide +kernel
theorem dX11_openPurse_17 : decode cX11_openPurse 17 = .ok (.bipush 6, 2) := by decide +kernel
theorem dX11_openPurse_19 : decode cX11_openPurse 19 = .ok (.iload_n 1, 1) := by decide +kernel
theorem dX11_openPurse_20 : decode cX11_openPurse 20 = .ok (.imul, 1) := by decide +kernel
theorem dX11_openPurse_21 : decode cX11_openPurse 21 = .ok (.iload_n 2, 1) := by decide +kernel
theorem dX11_openPurse_22 : decode cX11_openPurse 22 = .ok (.iadd, 1) := by decide +kernel
theorem dX11_openPurse_23 : decode cX11_openPurse 23 = .ok (.iaload, 1) := by decide +kernel
theorem dX11_openPurse_24 : decode cX11_openPurse 24 = .ok (.iastore, 1) := by decide +kernel
theorem dX11_openPurse_25 : decode cX11_openPurse 25 = .ok (.iinc 2 1, 3) := by decide +kernel
theorem dX11_openPurse_28 : decode cX11_openPurse 28 = .ok (.goto (-26), 3) := by decide +kernel
theorem dX11_openPurse_31 : decode cX11_openPurse 31 = .ok (.return_, 1) := by decide +kernel
theorem q_1336 : Cond.fieldLink RX11 66 RX11 "purse" "[I" ∈ zTB := zmem 1336 (by decide +kernel) rfl
def F_X11_openPurse (i : Nat) (X Y : Nat → Int → Int) (R : Nat → Int → Option Nat) (a : Int) : Prop := (∀ i j, rI (X i j)) → (∀ i j, rL (Y i j)) → ((0 ≤ (0 : Int) ∧ (0 : Int) ≤ 6) ∧ (∀ z, z ≠ i + 19 → X z = X z) ∧ ∀ z, 0 ≤ z → z < (0 : Int) → X (i + 19) z = X (i + 16) (6 * a + z)) ∧ (∀ (j : Int) (X2 : Nat → Int → Int), rI j → (∀ i j, rI (X2 i j)) → ((0 ≤ j ∧ j ≤ 6) ∧ (∀ z, z ≠ i + 19 → X2 z = X z) ∧ ∀ z, 0 ≤ z → z < j → X2 (i + 19) z = X (i + 16) (6 * a + z)) → (((6 ≤ j) → ((∀ z, z ≠ i + 19 → (X2) z = X z) ∧ ∀ z, 0 ≤ z → z < 6 → (X2) (i + 19) z = X (i + 16) (6 * (a) + z))) ∧ ((¬ (6 ≤ j)) → ((0 ≤ ((6 * a) + j) ∧ ((6 * a) + j) < 90) ∧ ((0 ≤ j ∧ j < 6) ∧ (∀ X6 : Nat → Int → Int, X6 = zU X2 (i + 19) (j) (X2 (i + 16) ((6 * a) + j)) → (∀ i j, rI (X6 i j)) → ((rI (j + 1)) ∧ ((0 ≤ j + 1 ∧ j + 1 ≤ 6) ∧ (∀ z, z ≠ i + 19 → X6 z = X z) ∧ ∀ z, 0 ≤ z → z < j + 1 → X6 (i + 19) z = X (i + 16) (6 * a + z)) ∧ (((6 - (j + 1)).toNat) < ((6 - (j)).toNat)))))))))
set_option maxHeartbeats 4000000 in
set_option maxRecDepth 100000 in
theorem w_X11_openPurse {l : Launch} {D : va_G} {cy : Nat → ClassId} {bs N : Nat} {sa : Nat → Nat} {kd len : Nat → Nat} {X Y : Nat → Int → Int} {R : Nat → Int → Option Nat} {i : Nat} (hM : zM N kd len R i) (a : Int) (ha : rI a) (hF : F_X11_openPurse i X Y R a) : Met l yX11_openPurse (.code yX11_openPurse cX11_openPurse 3 none :: zTB) (zRm 0 0) (zPc D cy bs sa N kd len X Y R [.ref (bs + (i)), .int (zI (a))]) (zQv D cy bs N kd len (fun st => st.2.1 = Y ∧ st.2.2 = R ∧ ((∀ z, z ≠ i + 19 → (st.1) z = X z) ∧ ∀ z, 0 ≤ z → z < 6 → (st.1) (i + 19) z = X (i + 16) (6 * (a) + z)))) 0 0 (zA bs) := by
  refine zstart (by decide) (Nat.le_of_ble_eq_true rfl) ?_
  intro p e s m args below meth c ls C hE hH hr hlk hnm hl hargs
  have hF := hF hH.2.2.1 hH.2.2.2
  have hS : va_S (zA bs) s.heap s.heap [] := va_S.rf
  have hl : lv_has ls 3 [(0, .ref (bs + (i))), (1, .int (zI (a)))] := hl
  refine zd_iconst C dX11_openPurse_0 ?_
  refine lv_istore_n (lv' := [(2, .int (zI (0))), (0, .ref (bs + (i))), (1, .int (zI (a)))]) C.1 C.2.1 dX11_openPurse_1 rfl hl (by decide) rfl (fun ls hl => ?_)
  obtain ⟨hI1, hF⟩ := hF
  have L1 : ∀ (fu : Nat) (j : Int) (X2 : Nat → Int → Int), rI j → ((0 ≤ j ∧ j ≤ 6) ∧ (∀ z, z ≠ i + 19 → X2 z = X z) ∧ ∀ z, 0 ≤ z → z < j → X2 (i + 19) z = X (i + 16) (6 * a + z)) → ((6 - (j)).toNat) < fu → ∀ (H : Heap) (locs : List Loc) (ls : Array Slot), zH D cy bs N kd len X2 Y R H → va_S (zA bs) s.heap H locs → lv_has ls 3 [(2, .int (zI (j))), (0, .ref (bs + (i))), (1, .int (zI (a)))] → W p l e (zRm 0 0) s m args below meth c H locs 0 0 (MQ below (zQv D cy bs N kd len (fun st => st.2.1 = Y ∧ st.2.2 = R ∧ ((∀ z, z ≠ i + 19 → (st.1) z = X z) ∧ ∀ z, 0 ≤ z → z < 6 → (st.1) (i + 19) z = X (i + 16) (6 * (a) + z)))) args s 0 0 (zA bs)) (F0 m 2 ls []) := by
    intro fu
    induction fu with
    | zero => intro j X2 _ _ hmu; exact absurd hmu (Nat.not_lt_zero _)
    | succ fu ih1 =>
      intro j X2 hj hI hmu1 H locs ls hH hS hl
      have hF := hF j X2 hj hH.2.2.1 hI
      refine lv_iload_n C.1 C.2.1 dX11_openPurse_2 rfl (lv_at hl 0 rfl) ?_
      refine zd_bipush C (by decide) dX11_openPurse_3 ?_
      refine zd_icmp_ge C hj (by decide) 31 dX11_openPurse_5 (by decide) (fun c3 => ?_) (fun c3 => ?_)
      · have hF := hF.1 c3
        exact zd_vret C hr hlk hH hS (⟨rfl, rfl, hF⟩) dX11_openPurse_31
      · have hF := hF.2 c3
        refine lv_aload_n C.1 C.2.1 dX11_openPurse_8 rfl (lv_at hl 1 rfl) ?_
        refine zg11_49 C hH (zM_n0 hM) (zM_k0 hM) q_1336 (zM_r19 hM) dX11_openPurse_9 ?_
        refine lv_iload_n C.1 C.2.1 dX11_openPurse_12 rfl (lv_at hl 0 rfl) ?_
        refine lv_aload_n C.1 C.2.1 dX11_openPurse_13 rfl (lv_at hl 1 rfl) ?_
        refine zg11_34 C hH (zM_n0 hM) (zM_k0 hM) q_1321 (zM_r16 hM) dX11_openPurse_14 ?_
        refine zd_bipush C (by decide) dX11_openPurse_17 ?_
        refine lv_iload_n C.1 C.2.1 dX11_openPurse_19 rfl (lv_at hl 2 rfl) ?_
        refine zd_imul C dX11_openPurse_20 ?_
        refine lv_iload_n C.1 C.2.1 dX11_openPurse_21 rfl (lv_at hl 0 rfl) ?_
        refine zd_iadd C dX11_openPurse_22 ?_
        obtain ⟨o4, hF⟩ := hF
        refine zd_iald C hH (zM_n16 hM) (zM_k16 hM) o4.1 (by rw [zM_l16 hM]; exact o4.2) (by rw [zM_l16 hM]; decide) dX11_openPurse_23 ?_
        obtain ⟨o5, hF⟩ := hF
        refine zd_iast C hH hS (zM_n19 hM) (zM_k19 hM) o5.1 (by rw [zM_l19 hM]; exact o5.2) (by rw [zM_l19 hM]; decide) (hH.2.2.1 _ _) dX11_openPurse_24 (fun H locs hH hS => ?_)
        obtain ⟨X6, eX6⟩ : ∃ z, z = zU X2 (i + 19) (j) (X2 (i + 16) ((6 * a) + j)) := ⟨_, rfl⟩
        rw [← eX6] at hH
        have hF := hF X6 eX6 hH.2.2.1
        refine zd_iinc (k := 0) (lv' := [(2, .int (zI (j + 1))), (0, .ref (bs + (i))), (1, .int (zI (a)))]) C hl rfl dX11_openPurse_25 (by decide) rfl (fun ls hl => ?_)
        refine lv_goto (tgt := 2) C.1 C.2.1 dX11_openPurse_28 (by decide) ?_
        obtain ⟨o7, hF⟩ := hF
        exact ih1 (j + 1) X6 o7 hF.1 (Nat.lt_of_lt_of_le hF.2 (Nat.le_of_lt_succ hmu1)) _ _ _ hH hS (lv_sub hl [0, 1, 2] rfl)
  exact L1 (((6 - ((0 : Int))).toNat) + 1) ((0 : Int)) X (by decide) hI1 (Nat.lt_succ_self _) _ _ _ hH hS (lv_sub hl [0, 1, 2] rfl)
theorem v_X11_openPurse {X Y : Nat → Int → Int} {R : Nat → Int → Option Nat} {i : Nat} (a : Int) (ha : rI a) (hp : 0 ≤ a ∧ a < 15) : F_X11_openPurse i X Y R a := by
  unfold F_X11_openPurse
  intro hX hY
  refine ⟨⟨⟨by decide, by decide⟩, fun _ _ => rfl, fun z h1 h2 => by omega⟩, fun j X2 jr x2r hI => ?_⟩
  obtain ⟨⟨j0, j1⟩, h1, h2⟩ := hI
  refine ⟨fun c => ⟨h1, fun z z0 z1 => h2 z z0 (by omega)⟩, fun c => ⟨⟨by omega, by omega⟩, ⟨by omega, by omega⟩, fun X4 e4 x4r => ⟨⟨by omega, by omega⟩, ⟨⟨by omega, by omega⟩, fun z hz => by rw [e4, zU_o hz]; exact h1 z hz, fun z z0 z1 => ?_⟩, by omega⟩⟩⟩
  rw [e4]
  by_cases g : z = j
  · rw [g, zU_s, h1 _ (by omega)]
  · rw [zU_n (by omega)]
    exact h2 z z0 (by omega)
theorem c_X11_openPurse {l : Launch} {D : va_G} {cy : Nat → ClassId} {bs N : Nat} {sa : Nat → Nat} {kd len : Nat → Nat} {X Y : Nat → Int → Int} {R : Nat → Int → Option Nat} {i : Nat} (hM : zM N kd len R i) (a : Int) (ha : rI a) (hp : 0 ≤ a ∧ a < 15) : Met l yX11_openPurse (.code yX11_openPurse cX11_openPurse 3 none :: zTB) (zRm 0 0) (zPc D cy bs sa N kd len X Y R [.ref (bs + (i)), .int (zI (a))]) (zQv D cy bs N kd len (fun st => st.2.1 = Y ∧ st.2.2 = R ∧ ((∀ z, z ≠ i + 19 → (st.1) z = X z) ∧ ∀ z, 0 ≤ z → z < 6 → (st.1) (i + 19) z = X (i + 16) (6 * (a) + z)))) 0 0 (zA bs) := w_X11_openPurse hM a ha (v_X11_openPurse a ha hp)
abbrev cX11_moves : ByteArray := prog_13_method_88_code
def yX11_moves : MethodName := ⟨RX11, "moves", "(IIII)Z"⟩
theorem dX11_moves_0 : decode cX11_moves 0 = .ok (.aload_n 0, 1) := by decide +kernel
theorem dX11_moves_1 : decode cX11_moves 1 = .ok (.iload_n 1, 1) := by decide +kernel
theorem dX11_moves_2 : decode cX11_moves 2 = .ok (.invokevirtual 289, 3) := by decide +kernel
theorem dX11_moves_5 : decode cX11_moves 5 = .ok (.ifCond .eq 24, 3) := by decide +kernel
theorem dX11_moves_8 : decode cX11_moves 8 = .ok (.aload_n 0, 1) := by decide +kernel
theorem dX11_moves_9 : decode cX11_moves 9 = .ok (.iload_n 2, 1) := by decide +kernel
theorem dX11_moves_10 : decode cX11_moves 10 = .ok (.invokevirtual 289, 3) := by decide +kernel
theorem dX11_moves_13 : decode cX11_moves 13 = .ok (.ifCond .eq 16, 3) := by decide +kernel
theorem dX11_moves_16 : decode cX11_moves 16 = .ok (.aload_n 0, 1) := by decide +kernel
theorem dX11_moves_17 : decode cX11_moves 17 = .ok (.getfield 66, 3) := by decide +kernel
theorem dX11_moves_20 : decode cX11_moves 20 = .ok (.iload_n 1, 1) := by decide +kernel
theorem dX11_moves_21 : decode cX11_moves 21 = .ok (.iaload, 1) := by decide +kernel
theorem dX11_moves_22 : decode cX11_moves 22 = .ok (.iload_n 3, 1) := by decide +kernel
theorem dX11_moves_23 : decode cX11_moves 23 = .ok (.iload 4, 2) := by decide +kernel
theorem dX11_moves_25 : decode cX11_moves 25 = .ok (.iadd, 1) := by decide +kernel
theorem dX11_moves_26 : decode cX11_moves 26 = .ok (.if_icmp .ge 5, 3) := by decide +kernel
theorem dX11_moves_29 : decode cX11_moves 29 = .ok (.iconst 0, 1) := by decide +kernel
theorem dX11_moves_30 : decode cX11_moves 30 = .ok (.ireturn, 1) := by decide +kernel
theorem dX11_moves_31 : decode cX11_moves 31 = .ok (.aload_n 0, 1) := by decide +kernel
theorem dX11_moves_32 : decode cX11_moves 32 = .ok (.getfield 66, 3) := by decide +kernel
theorem dX11_moves_35 : decode cX11_moves 35 = .ok (.iload_n 1, 1) := by decide +kernel
theorem dX11_moves_36 : decode cX11_moves 36 = .ok (.dup2, 1) := by decide +kernel
theorem dX11_moves_37 : decode cX11_moves 37 = .ok (.iaload, 1) := by decide +kernel
theorem dX11_moves_38 : decode cX11_moves 38 = .ok (.iload_n 3, 1) := by decide +kernel
theorem dX11_moves_39 : decode cX11_moves 39 = .ok (.iload 4, 2) := by decide +kernel
theorem dX11_moves_41 : decode cX11_moves 41 = .ok (.iadd, 1) := by decide +kernel
theorem dX11_moves_42 : decode cX11_moves 42 = .ok (.isub, 1) := by decide +kernel
theorem dX11_moves_43 : decode cX11_moves 43 = .ok (.iastore, 1) := by decide +kernel
theorem dX11_moves_44 : decode cX11_moves 44 = .ok (.aload_n 0, 1) := by decide +kernel
theorem dX11_moves_45 : decode cX11_moves 45 = .ok (.getfield 66, 3) := by decide +kernel
theorem dX11_moves_48 : decode cX11_moves 48 = .ok (.iload_n 2, 1) := by decide +kernel
theorem dX11_moves_49 : decode cX11_moves 49 = .ok (.dup2, 1) := by decide +kernel
theorem dX11_moves_50 : decode cX11_moves 50 = .ok (.iaload, 1) := by decide +kernel
theorem dX11_moves_51 : decode cX11_moves 51 = .ok (.iload_n 3, 1) := by decide +kernel
theorem dX11_moves_52 : decode cX11_moves 52 = .ok (.iadd, 1) := by decide +kernel
theorem dX11_moves_53 : decode cX11_moves 53 = .ok (.iastore, 1) := by decide +kernel
theorem dX11_moves_54 : decode cX11_moves 54 = .ok (.iconst 1, 1) := by decide +kernel
theorem dX11_moves_55 : decode cX11_moves 55 = .ok (.ireturn, 1) := by decide +kernel
def F_X11_moves (i : Nat) (X Y : Nat → Int → Int) (R : Nat → Int → Option Nat) (a : Int) (b : Int) (g : Int) (d : Int) : Prop := (∀ i j, rI (X i j)) → (∀ i j, rL (Y i j)) → (0 ≤ X i 26) ∧ ((((mIn (a) 0 (X i 26 - 1)) = false) → (false = ((mIn (a) 0 (X i 26 - 1) && mIn (b) 0 (X i 26 - 1)) && decide (g + d ≤ X (i + 19) (a))) ∧ (X) = if false then zU (zU X (i + 19) (a) (X (i + 19) (a) - (g + d))) (i + 19) (b) (zU X (i + 19) (a) (X (i + 19) (a) - (g + d)) (i + 19) (b) + g) else X)) ∧ (((mIn (a) 0 (X i 26 - 1)) = true) → ((0 ≤ X i 26) ∧ ((((mIn (b) 0 (X i 26 - 1)) = false) → (false = ((mIn (a) 0 (X i 26 - 1) && mIn (b) 0 (X i 26 - 1)) && decide (g + d ≤ X (i + 19) (a))) ∧ (X) = if false then zU (zU X (i + 19) (a) (X (i + 19) (a) - (g + d))) (i + 19) (b) (zU X (i + 19) (a) (X (i + 19) (a) - (g + d)) (i + 19) (b) + g) else X)) ∧ (((mIn (b) 0 (X i 26 - 1)) = true) → ((0 ≤ a ∧ a < 6) ∧ ((rI (g + d)) ∧ ((((g + d) ≤ (X (i + 19) (a))) → ((0 ≤ a ∧ a < 6) ∧ ((0 ≤ a ∧ a < 6) ∧ ((rI ((X (i + 19) (a)) - (g + d))) ∧ (∀ X11 : Nat → Int → Int, X11 = zU X (i + 19) (a) ((X (i + 19) (a)) - (g + d)) → (∀ i j, rI (X11 i j)) → ((0 ≤ b ∧ b < 6) ∧ ((0 ≤ b ∧ b < 6) ∧ ((rI ((X11 (i + 19) (b)) + g)) ∧ (∀ X15 : Nat → Int → Int, X15 = zU X11 (i + 19) (b) ((X11 (i + 19) (b)) + g) → (∀ i j, rI (X15 i j)) → (true = ((mIn (a) 0 (X i 26 - 1) && mIn (b) 0 (X i 26 - 1)) && decide (g + d ≤ X (i + 19) (a))) ∧ (X15) = if true then zU (zU X (i + 19) (a) (X (i + 19) (a) - (g + d))) (i + 19) (b) (zU X (i + 19) (a) (X (i + 19) (a) - (g + d)) (i + 19) (b) + g) else X)))))))))) ∧ ((¬ ((g + d) ≤ (X (i + 19) (a)))) → (false = ((mIn (a) 0 (X i 26 - 1) && mIn (b) 0 (X i 26 - 1)) && decide (g + d ≤ X (i + 19) (a))) ∧ (X) = if false then zU (zU X (i + 19) (a) (X (i + 19) (a) - (g + d))) (i + 19) (b) (zU X (i + 19) (a) (X (i + 19) (a) - (g + d)) (i + 19) (b) + g) else X))))))))))
set_option maxHeartbeats 4000000 in
set_option maxRecDepth 100000 in
theorem w_X11_moves {l : Launch} {D : va_G} {cy : Nat → ClassId} {bs N : Nat} {sa : Nat → Nat} {kd len : Nat → Nat} {X Y : Nat → Int → Int} {R : Nat → Int → Option Nat} {i : Nat} (hM : zM N kd len R i) (a : Int) (ha : rI a) (b : Int) (hb : rI b) (g : Int) (hg : rI g) (d : Int) (hd : rI d) (hF : F_X11_moves i X Y R a b g d) : Met l yX11_moves (.code yX11_moves cX11_moves 5 (some .boolean) :: zTB) (zRm 2 43) (zPc D cy bs sa N kd len X Y R [.ref (bs + (i)), .int (zI (a)), .int (zI (b)), .int (zI (g)), .int (zI (d))]) (zQi D cy bs N kd len (fun r st => st.2.1 = Y ∧ st.2.2 = R ∧ ∃ rb : Bool, r = bz rb ∧ (rb = ((mIn (a) 0 (X i 26 - 1) && mIn (b) 0 (X i 26 - 1)) && decide (g + d ≤ X (i + 19) (a))) ∧ (st.1) = if rb then zU (zU X (i + 19) (a) (X (i + 19) (a) - (g + d))) (i + 19) (b) (zU X (i + 19) (a) (X (i + 19) (a) - (g + d)) (i + 19) (b) + g) else X))) 0 0 (zA bs) := by
  refine zstart (by decide) (Nat.le_of_ble_eq_true rfl) ?_
  intro p e s m args below meth c ls C hE hH hr hlk hnm hl hargs
  have hF := hF hH.2.2.1 hH.2.2.2
  have hS : va_S (zA bs) s.heap s.heap [] := va_S.rf
  have hl : lv_has ls 5 [(0, .ref (bs + (i))), (1, .int (zI (a))), (2, .int (zI (b))), (3, .int (zI (g))), (4, .int (zI (d)))] := hl
  refine lv_aload_n C.1 C.2.1 dX11_moves_0 rfl (lv_at hl 0 rfl) ?_
  refine lv_iload_n C.1 C.2.1 dX11_moves_1 rfl (lv_at hl 1 rfl) ?_
  obtain ⟨o1, hF⟩ := hF
  refine zgoi (zrunV (As := [.int (zI (a))]) (rest := []) C hE hH hS hl.1 (c_X11_isAccount (l := l) hM (a) ha o1) k_RX11_289 ⟨Nat.le_of_ble_eq_true rfl, Nat.le_of_ble_eq_true rfl⟩ (zM_n0 hM) (zM_k0 hM) rfl rfl rfl (Nat.le_of_ble_eq_true rfl) dX11_moves_2 ⟨Nat.zero_le _, Nat.zero_le _⟩) hS (fun rq Xq Yq Rq H locs hrq hq hH hS => ?_)
  obtain ⟨h91, h92⟩ := hq
  have h93 : Xq = X := congrArg (fun z => z.1) h92
  have h94 : Yq = Y := congrArg (fun z => z.2.1) h92
  have h95 : Rq = R := congrArg (fun z => z.2.2) h92
  rw [h93, h94, h95] at hH
  subst h91
  refine zd_ifB_eq C 29 dX11_moves_5 (by decide) (fun c2 => ?_) (fun c2 => ?_)
  · have hF := hF.1 c2
    refine zd_iconst C dX11_moves_29 ?_
    exact zd_zret C hr hlk hH hS (by decide) (⟨rfl, rfl, _, rfl, hF⟩) dX11_moves_30
  · have hF := hF.2 c2
    refine lv_aload_n C.1 C.2.1 dX11_moves_8 rfl (lv_at hl 0 rfl) ?_
    refine lv_iload_n C.1 C.2.1 dX11_moves_9 rfl (lv_at hl 2 rfl) ?_
    obtain ⟨o3, hF⟩ := hF
    refine zgoi (zrunV (As := [.int (zI (b))]) (rest := []) C hE hH hS hl.1 (c_X11_isAccount (l := l) hM (b) hb o3) k_RX11_289 ⟨Nat.le_of_ble_eq_true rfl, Nat.le_of_ble_eq_true rfl⟩ (zM_n0 hM) (zM_k0 hM) rfl rfl rfl (Nat.le_of_ble_eq_true rfl) dX11_moves_10 ⟨Nat.zero_le _, Nat.zero_le _⟩) hS (fun rq Xq Yq Rq H locs hrq hq hH hS => ?_)
    obtain ⟨h91, h92⟩ := hq
    have h93 : Xq = X := congrArg (fun z => z.1) h92
    have h94 : Yq = Y := congrArg (fun z => z.2.1) h92
    have h95 : Rq = R := congrArg (fun z => z.2.2) h92
    rw [h93, h94, h95] at hH
    subst h91
    refine zd_ifB_eq C 29 dX11_moves_13 (by decide) (fun c4 => ?_) (fun c4 => ?_)
    · have hF := hF.1 c4
      refine zd_iconst C dX11_moves_29 ?_
      exact zd_zret C hr hlk hH hS (by decide) (⟨rfl, rfl, _, rfl, hF⟩) dX11_moves_30
    · have hF := hF.2 c4
      refine lv_aload_n C.1 C.2.1 dX11_moves_16 rfl (lv_at hl 0 rfl) ?_
      refine zg11_49 C hH (zM_n0 hM) (zM_k0 hM) q_1336 (zM_r19 hM) dX11_moves_17 ?_
      refine lv_iload_n C.1 C.2.1 dX11_moves_20 rfl (lv_at hl 1 rfl) ?_
      obtain ⟨o5, hF⟩ := hF
      refine zd_iald C hH (zM_n19 hM) (zM_k19 hM) o5.1 (by rw [zM_l19 hM]; exact o5.2) (by rw [zM_l19 hM]; decide) dX11_moves_21 ?_
      refine lv_iload_n C.1 C.2.1 dX11_moves_22 rfl (lv_at hl 3 rfl) ?_
      refine lv_iload C.1 C.2.1 dX11_moves_23 (lv_at hl 4 rfl) ?_
      refine zd_iadd C dX11_moves_25 ?_
      obtain ⟨o7, hF⟩ := hF
      refine zd_icmp_ge C (hH.2.2.1 _ _) o7 31 dX11_moves_26 (by decide) (fun c6 => ?_) (fun c6 => ?_)
      · have hF := hF.1 c6
        refine lv_aload_n C.1 C.2.1 dX11_moves_31 rfl (lv_at hl 0 rfl) ?_
        refine zg11_49 C hH (zM_n0 hM) (zM_k0 hM) q_1336 (zM_r19 hM) dX11_moves_32 ?_
        refine lv_iload_n C.1 C.2.1 dX11_moves_35 rfl (lv_at hl 1 rfl) ?_
        refine lv_dup2_11 C.1 C.2.1 dX11_moves_36 rfl rfl ?_
        obtain ⟨o8, hF⟩ := hF
        refine zd_iald C hH (zM_n19 hM) (zM_k19 hM) o8.1 (by rw [zM_l19 hM]; exact o8.2) (by rw [zM_l19 hM]; decide) dX11_moves_37 ?_
        refine lv_iload_n C.1 C.2.1 dX11_moves_38 rfl (lv_at hl 3 rfl) ?_
        refine lv_iload C.1 C.2.1 dX11_moves_39 (lv_at hl 4 rfl) ?_
        refine zd_iadd C dX11_moves_41 ?_
        refine zd_isub C dX11_moves_42 ?_
        obtain ⟨o9, hF⟩ := hF
        obtain ⟨o10, hF⟩ := hF
        refine zd_iast C hH hS (zM_n19 hM) (zM_k19 hM) o9.1 (by rw [zM_l19 hM]; exact o9.2) (by rw [zM_l19 hM]; decide) o10 dX11_moves_43 (fun H locs hH hS => ?_)
        obtain ⟨X11, eX11⟩ : ∃ z, z = zU X (i + 19) (a) ((X (i + 19) (a)) - (g + d)) := ⟨_, rfl⟩
        rw [← eX11] at hH
        have hF := hF X11 eX11 hH.2.2.1
        refine lv_aload_n C.1 C.2.1 dX11_moves_44 rfl (lv_at hl 0 rfl) ?_
        refine zg11_49 C hH (zM_n0 hM) (zM_k0 hM) q_1336 (zM_r19 hM) dX11_moves_45 ?_
        refine lv_iload_n C.1 C.2.1 dX11_moves_48 rfl (lv_at hl 2 rfl) ?_
        refine lv_dup2_11 C.1 C.2.1 dX11_moves_49 rfl rfl ?_
        obtain ⟨o12, hF⟩ := hF
        refine zd_iald C hH (zM_n19 hM) (zM_k19 hM) o12.1 (by rw [zM_l19 hM]; exact o12.2) (by rw [zM_l19 hM]; decide) dX11_moves_50 ?_
        refine lv_iload_n C.1 C.2.1 dX11_moves_51 rfl (lv_at hl 3 rfl) ?_
        refine zd_iadd C dX11_moves_52 ?_
        obtain ⟨o13, hF⟩ := hF
        obtain ⟨o14, hF⟩ := hF
        refine zd_iast C hH hS (zM_n19 hM) (zM_k19 hM) o13.1 (by rw [zM_l19 hM]; exact o13.2) (by rw [zM_l19 hM]; decide) o14 dX11_moves_53 (fun H locs hH hS => ?_)
        obtain ⟨X15, eX15⟩ : ∃ z, z = zU X11 (i + 19) (b) ((X11 (i + 19) (b)) + g) := ⟨_, rfl⟩
        rw [← eX15] at hH
        have hF := hF X15 eX15 hH.2.2.1
        refine zd_iconst C dX11_moves_54 ?_
        exact zd_zret C hr hlk hH hS (by decide) (⟨rfl, rfl, _, rfl, hF⟩) dX11_moves_55
      · have hF := hF.2 c6
        refine zd_iconst C dX11_moves_29 ?_
        exact zd_zret C hr hlk hH hS (by decide) (⟨rfl, rfl, _, rfl, hF⟩) dX11_moves_30
theorem v_X11_moves {X Y : Nat → Int → Int} {R : Nat → Int → Option Nat} {i : Nat} (a : Int) (ha : rI a) (b : Int) (hb : rI b) (g : Int) (hg : rI g) (d : Int) (hd : rI d) (hp : (0 ≤ X i 26 ∧ X i 26 ≤ 6) ∧ oPu X i 1000000 ∧ (0 ≤ g ∧ g ≤ 99) ∧ (0 ≤ d ∧ d ≤ 9)) : F_X11_moves i X Y R a b g d := by
  unfold F_X11_moves
  intro hX hY
  obtain ⟨h26, hpu, hg, hd⟩ := hp
  refine ⟨h26.1, fun c1 => ⟨by rw [c1, Bool.false_and, Bool.false_and], rfl⟩, fun c1 => ⟨h26.1, fun c2 => ⟨by rw [c1, c2, Bool.and_false, Bool.false_and], rfl⟩, fun c2 => ?_⟩⟩
  have m1 := mIn_t.mp c1
  have m2 := mIn_t.mp c2
  have pa := hpu a m1.1 (by omega)
  have pb := hpu b m2.1 (by omega)
  refine ⟨⟨m1.1, by omega⟩, ⟨by omega, by omega⟩, fun c3 => ⟨⟨m1.1, by omega⟩, ⟨m1.1, by omega⟩, ⟨by omega, by omega⟩, fun X11 e11 x11r => ⟨⟨m2.1, by omega⟩, ⟨m2.1, by omega⟩, ?_, fun X15 e15 x15r => ⟨?_, ?_⟩⟩⟩, fun c3 => ⟨?_, rfl⟩⟩
  · rw [e11]
    by_cases g9 : b = a
    · rw [g9, zU_s]
      exact ⟨by omega, by omega⟩
    · rw [zU_n (by omega)]
      exact ⟨by omega, by omega⟩
  · rw [c1, c2, decide_eq_true c3]
    rfl
  · rw [if_pos rfl, e15, e11]
  · rw [c1, c2, decide_eq_false c3]
    rfl
theorem c_X11_moves {l : Launch} {D : va_G} {cy : Nat → ClassId} {bs N : Nat} {sa : Nat → Nat} {kd len : Nat → Nat} {X Y : Nat → Int → Int} {R : Nat → Int → Option Nat} {i : Nat} (hM : zM N kd len R i) (a : Int) (ha : rI a) (b : Int) (hb : rI b) (g : Int) (hg : rI g) (d : Int) (hd : rI d) (hp : (0 ≤ X i 26 ∧ X i 26 ≤ 6) ∧ oPu X i 1000000 ∧ (0 ≤ g ∧ g ≤ 99) ∧ (0 ≤ d ∧ d ≤ 9)) : Met l yX11_moves (.code yX11_moves cX11_moves 5 (some .boolean) :: zTB) (zRm 2 43) (zPc D cy bs sa N kd len X Y R [.ref (bs + (i)), .int (zI (a)), .int (zI (b)), .int (zI (g)), .int (zI (d))]) (zQi D cy bs N kd len (fun r st => st.2.1 = Y ∧ st.2.2 = R ∧ ∃ rb : Bool, r = bz rb ∧ (rb = ((mIn (a) 0 (X i 26 - 1) && mIn (b) 0 (X i 26 - 1)) && decide (g + d ≤ X (i + 19) (a))) ∧ (st.1) = if rb then zU (zU X (i + 19) (a) (X (i + 19) (a) - (g + d))) (i + 19) (b) (zU X (i + 19) (a) (X (i + 19) (a) - (g + d)) (i + 19) (b) + g) else X))) 0 0 (zA bs) := w_X11_moves hM a ha b hb g hg d hd (v_X11_moves a ha b hb g hg d hd hp)
