/-! ALL LAWS -/
theorem flK.rf {X Y : Nat → Int → Int} {i : Nat} : flK X X Y Y i := ⟨fun _ _ _ _ _ _ _ => rfl, fun _ _ => rfl, fun _ _ _ _ => rfl⟩
theorem flK.tr {X X1 X2 Y Y1 Y2 : Nat → Int → Int} {i : Nat} (h : flK X X1 Y Y1 i) (g : flK X1 X2 Y1 Y2 i) : flK X X2 Y Y2 i :=
  ⟨fun a h1 h2 h3 h4 h5 h6 => (g.1 a h1 h2 h3 h4 h5 h6).trans (h.1 a h1 h2 h3 h4 h5 h6), fun s h1 => (g.2.1 s h1).trans (h.2.1 s h1), fun a h1 h2 h3 => (g.2.2 a h1 h2 h3).trans (h.2.2 a h1 h2 h3)⟩
/-- what going through laws wants -/
def oFl (X : Nat → Int → Int) (i : Nat) : Prop := (oA X i ∧ (1 ≤ X i 27 ∧ X i 27 ≤ 15) ∧ oBs X i (X i 27 - 1).toNat ∧ (1 ≤ mG X i 1 ∧ mG X i 1 ≤ 99) ∧ (1 ≤ mG X i 2 ∧ mG X i 2 ≤ 99)) ∧ (oFd X i ∧ oFdr X i (X i 40)) ∧ oLq X i
theorem oFl_k {X X1 Y Y1 : Nat → Int → Int} {i : Nat} (f : flK X X1 Y Y1 i) (h : oFl X i) : oFl X1 i ∧ (∀ law, lwT X1 i law = lwT X i law) ∧ mLn X1 i = mLn X i ∧ ∀ k w, mLf X1 i k w = mLf X i k w := by
  have o6 := f.1 (i + 6) (by omega) (by omega) (by omega) (by omega) (by omega) (by omega)
  have o7 := f.1 (i + 7) (by omega) (by omega) (by omega) (by omega) (by omega) (by omega)
  have o8 := f.1 (i + 8) (by omega) (by omega) (by omega) (by omega) (by omega) (by omega)
  have o9 := f.1 (i + 9) (by omega) (by omega) (by omega) (by omega) (by omega) (by omega)
  have s24 := f.2.1 24 (by omega)
  have s25 := f.2.1 25 (by omega)
  have s26 := f.2.1 26 (by omega)
  have s27 := f.2.1 27 (by omega)
  have s40 := f.2.1 40 (by omega)
  have s55 := f.2.1 55 (by omega)
  obtain ⟨kA, kB, kG, kC⟩ := lw_ok o6 o7 s24 s25 s26
  obtain ⟨⟨h1, h2, h3, h4, h5⟩, ⟨h6, h7⟩, h8, h9⟩ := h
  refine ⟨⟨⟨kA h1, by rw [s27]; exact h2, by rw [s27]; exact kB _ h3, by rw [kG]; exact h4, by rw [kG]; exact h5⟩, ⟨?_, ?_⟩, ?_, ?_⟩, fun law => lwT_k o6 o7 o8 (fun s hs => f.2.1 s (by omega)) law, ?_, fun k w => ?_⟩
  · show 0 ≤ X1 i 40 ∧ X1 i 40 ≤ 1
    rw [s40]
    exact h6
  · unfold oFdr at h7 ⊢
    rw [s40, o8]
    exact h7
  · show 0 ≤ X1 i 55 ∧ X1 i 55 ≤ 1
    rw [s55]
    exact h8
  · unfold oLgr at h9 ⊢
    rw [s55, o9]
    exact h9
  · unfold mLn
    rw [s55, o9]
  · unfold mLf
    rw [s55, o9]
theorem lwK_fl {X X1 Y Y1 : Nat → Int → Int} {i : Nat} (h : lwK X X1 Y Y1 i) : flK X X1 Y Y1 i := ⟨fun a h1 h2 h3 h4 h5 _ => h.1 a h1 h2 h3 h4 h5, fun s hs => h.2.1 s (by omega), h.2.2⟩
theorem lwF_m {X : Nat → Int → Int} {i q : Nat} (h : (q : Int).tmod 10 ≤ 0) : lwF X i q = false := by
  unfold lwF
  have e : (q : Int).tmod 10 = ((q % 10 : Nat) : Int) := rfl
  rw [decide_eq_false (by omega), Bool.false_and]
theorem lwR_no {X X1 : Nat → Int → Int} {i q : Nat} {b : Int} (hf : lwF X i q = false) (h : lwR X X1 i b q) : lwR X X1 i b (q + 1) := by
  obtain ⟨h1, h2, h3, h4, h5, h6, h7⟩ := h
  refine ⟨?_, ?_, ?_, ?_, ?_, ?_, fun y v hy hv => ?_⟩
  · rw [h1]
    show _ = cN _ q + if lwF X i q then 1 else 0
    rw [hf]
    exact (Int.add_zero _).symm
  · rw [h2]
    show _ = if lwF X i q && _ then _ else _
    rw [hf]
    rfl
  · rw [h3]
    show _ = if lwF X i q then _ else _
    rw [hf]
    rfl
  · rw [h4]
    show _ = if lwF X i q then _ else _
    rw [hf]
    rfl
  · rw [h5]
    show _ = if lwF X i q then _ else _
    rw [hf]
    rfl
  · rw [h6]
    show _ = if lwF X i q then _ else _
    rw [hf]
    rfl
  · rw [h7 y v hy hv]
    show _ = cN _ q + if scF X i y v q then 1 else 0
    unfold scF
    rw [hf]
    exact (Int.add_zero _).symm
theorem cN_le (f : Nat → Bool) (q : Nat) : 0 ≤ cN f q ∧ cN f q ≤ q := cN_b f q
abbrev cX11_findLaws : ByteArray := prog_13_method_110_code
def yX11_findLaws : MethodName := ⟨RX11, "findLaws", "(I)V"⟩
theorem dX11_findLaws_0 : decode cX11_findLaws 0 = .ok (.aload_n 0, 1) := by decide +kernel
theorem dX11_findLaws_1 : decode cX11_findLaws 1 = .ok (.iconst 0, 1) := by decide +kernel
theorem dX11_findLaws_2 : decode cX11_findLaws 2 = .ok (.putfield 497, 3) := by decide +kernel
theorem dX11_findLaws_5 : decode cX11_findLaws 5 = .ok (.aload_n 0, 1) := by decide +kernel
theorem dX11_findLaws_6 : decode cX11_findLaws 6 = .ok (.bipush (-2), 2) := by decide +kernel
theorem dX11_findLaws_8 : decode cX11_findLaws 8 = .ok (.putfield 500, 3) := by decide +kernel
theorem dX11_findLaws_11 : decode cX11_findLaws 11 = .ok (.aload_n 0, 1) := by decide +kernel
theorem dX11_findLaws_12 : decode cX11_findLaws 12 = .ok (.iconst 0, 1) := by decide +kernel
theorem dX11_findLaws_13 : decode cX11_findLaws 13 = .ok (.putfield 503, 3) := by decide +kernel
theorem dX11_findLaws_16 : decode cX11_findLaws 16 = .ok (.aload_n 0, 1) := by decide +kernel
theorem dX11_findLaws_17 : decode cX11_findLaws 17 = .ok (.iconst 0, 1) := by decide +kernel
theorem dX11_findLaws_18 : decode cX11_findLaws 18 = .ok (.putfield 506, 3) := by decide +kernel
theorem dX11_findLaws_21 : decode cX11_findLaws 21 = .ok (.aload_n 0, 1) := by decide +kernel
theorem dX11_findLaws_22 : decode cX11_findLaws 22 = .ok (.iconst 0, 1) := by decide +kernel
theorem dX11_findLaws_23 : decode cX11_findLaws 23 = .ok (.putfield 509, 3) := by decide +kernel
theorem dX11_findLaws_26 : decode cX11_findLaws 26 = .ok (.aload_n 0, 1) := by decide +kernel
theorem dX11_findLaws_27 : decode cX11_findLaws 27 = .ok (.iconst 0, 1) := by decide +kernel
theorem dX11_findLaws_28 : decode cX11_findLaws 28 = .ok (.putfield 512, 3) := by decide +kernel
theorem dX11_findLaws_31 : decode cX11_findLaws 31 = .ok (.iconst 0, 1) := by decide +kernel
theorem dX11_findLaws_32 : decode cX11_findLaws 32 = .ok (.istore_n 2, 1) := by decide +kernel
theorem dX11_findLaws_33 : decode cX11_findLaws 33 = .ok (.iload_n 2, 1) := by decide +kernel
theorem dX11_findLaws_34 : decode cX11_findLaws 34 = .ok (.sipush 656, 3) := by decide +kernel
theorem dX11_findLaws_37 : decode cX11_findLaws 37 = .ok (.if_icmp .ge 16, 3) := by decide +kernel
theorem dX11_findLaws_40 : decode cX11_findLaws 40 = .ok (.aload_n 0, 1) := by decide +kernel
theorem dX11_findLaws_41 : decode cX11_findLaws 41 = .ok (.getfield 81, 3) := by decide +kernel
theorem dX11_findLaws_44 : decode cX11_findLaws 44 = .ok (.iload_n 2, 1) := by decide +kernel
theorem dX11_findLaws_45 : decode cX11_findLaws 45 = .ok (.iconst 0, 1) := by decide +kernel
theorem dX11_findLaws_46 : decode cX11_findLaws 46 = .ok (.iastore, 1) := by decide +kernel
theorem dX11_findLaws_47 : decode cX11_findLaws 47 = .ok (.iinc 2 1, 3) := by decide +kernel
theorem dX11_findLaws_50 : decode cX11_findLaws 50 = .ok (.goto (-17), 3) := by decide +kernel
theorem dX11_findLaws_53 : decode cX11_findLaws 53 = .ok (.iconst 1, 1) := by decide +kernel
theorem dX11_findLaws_54 : decode cX11_findLaws 54 = .ok (.istore_n 2, 1) := by decide +kernel
theorem dX11_findLaws_55 : decode cX11_findLaws 55 = .ok (.iload_n 2, 1) := by decide +kernel
theorem dX11_findLaws_56 : decode cX11_findLaws 56 = .ok (.bipush 40, 2) := by decide +kernel
theorem dX11_findLaws_58 : decode cX11_findLaws 58 = .ok (.if_icmp .ge 34, 3) := by decide +kernel
theorem dX11_findLaws_61 : decode cX11_findLaws 61 = .ok (.iload_n 2, 1) := by decide +kernel
theorem dX11_findLaws_62 : decode cX11_findLaws 62 = .ok (.bipush 10, 2) := by decide +kernel
theorem dX11_findLaws_64 : decode cX11_findLaws 64 = .ok (.irem, 1) := by decide +kernel
theorem dX11_findLaws_65 : decode cX11_findLaws 65 = .ok (.ifCond .le 21, 3) := by decide +kernel
theorem dX11_findLaws_68 : decode cX11_findLaws 68 = .ok (.aload_n 0, 1) := by decide +kernel
theorem dX11_findLaws_69 : decode cX11_findLaws 69 = .ok (.iload_n 2, 1) := by decide +kernel
theorem dX11_findLaws_70 : decode cX11_findLaws 70 = .ok (.invokevirtual 515, 3) := by decide +kernel
theorem dX11_findLaws_73 : decode cX11_findLaws 73 = .ok (.aload_n 0, 1) := by decide +kernel
theorem dX11_findLaws_74 : decode cX11_findLaws 74 = .ok (.invokevirtual 518, 3) := by decide +kernel
theorem dX11_findLaws_77 : decode cX11_findLaws 77 = .ok (.ifCond .eq 9, 3) := by decide +kernel
theorem dX11_findLaws_80 : decode cX11_findLaws 80 = .ok (.aload_n 0, 1) := by decide +kernel
theorem dX11_findLaws_81 : decode cX11_findLaws 81 = .ok (.iload_n 2, 1) := by decide +kernel
theorem dX11_findLaws_82 : decode cX11_findLaws 82 = .ok (.iload_n 1, 1) := by decide +kernel
theorem dX11_findLaws_83 : decode cX11_findLaws 83 = .ok (.invokevirtual 521, 3) := by decide +kernel
theorem dX11_findLaws_86 : decode cX11_findLaws 86 = .ok (.iinc 2 1, 3) := by decide +kernel
theorem dX11_findLaws_89 : decode cX11_findLaws 89 = .ok (.goto (-34), 3) := by decide +kernel
theorem dX11_findLaws_92 : decode cX11_findLaws 92 = .ok (.return_, 1) := by decide +kernel
theorem q_1915 : Cond.methodLink RX11 515 yX11_playBy ∈ zTB := zmem 1915 (by decide +kernel) rfl
theorem q_1917 : Cond.instanceMethod yX11_playBy ∈ zTB := zmem 1917 (by decide +kernel) rfl
theorem q_109 : Cond.selects RX11 yX11_playBy yX11_playBy ∈ zTB := zmem 109 (by decide +kernel) rfl
theorem q_1918 : Cond.code yX11_playBy cX11_playBy 4 none ∈ zTB := zmem 1918 (by decide +kernel) rfl
theorem k_RX11_515 : zLv RX11 515 RX11 yX11_playBy cX11_playBy 4 none 1 := ⟨⟨q_1915, q_1917, q_109, q_140, q_1918⟩, rfl, ⟨by decide, by decide⟩, by decide +kernel⟩
theorem q_1919 : Cond.methodLink RX11 518 yX11_isSo ∈ zTB := zmem 1919 (by decide +kernel) rfl
theorem q_1921 : Cond.instanceMethod yX11_isSo ∈ zTB := zmem 1921 (by decide +kernel) rfl
theorem q_110 : Cond.selects RX11 yX11_isSo yX11_isSo ∈ zTB := zmem 110 (by decide +kernel) rfl
theorem q_1922 : Cond.code yX11_isSo cX11_isSo 2 (some .boolean) ∈ zTB := zmem 1922 (by decide +kernel) rfl
theorem k_RX11_518 : zLv RX11 518 RX11 yX11_isSo cX11_isSo 2 (some .boolean) 0 := ⟨⟨q_1919, q_1921, q_110, q_140, q_1922⟩, rfl, ⟨by decide, by decide⟩, by decide +kernel⟩
theorem q_1923 : Cond.methodLink RX11 521 yX11_noteFit ∈ zTB := zmem 1923 (by decide +kernel) rfl
theorem q_1925 : Cond.instanceMethod yX11_noteFit ∈ zTB := zmem 1925 (by decide +kernel) rfl
theorem q_111 : Cond.selects RX11 yX11_noteFit yX11_noteFit ∈ zTB := zmem 111 (by decide +kernel) rfl
theorem q_1926 : Cond.code yX11_noteFit cX11_noteFit 4 none ∈ zTB := zmem 1926 (by decide +kernel) rfl
theorem k_RX11_521 : zLv RX11 521 RX11 yX11_noteFit cX11_noteFit 4 none 2 := ⟨⟨q_1923, q_1925, q_111, q_140, q_1926⟩, rfl, ⟨by decide, by decide⟩, by decide +kernel⟩
def F_X11_findLaws (i : Nat) (X Y : Nat → Int → Int) (R : Nat → Int → Option Nat) (a : Int) : Prop := (∀ i j, rI (X i j)) → (∀ i j, rL (Y i j)) → ∀ X1 : Nat → Int → Int, X1 = zU X (i) 56 (0) → (∀ i j, rI (X1 i j)) → (∀ X2 : Nat → Int → Int, X2 = zU X1 (i) 57 ((-2)) → (∀ i j, rI (X2 i j)) → (∀ X3 : Nat → Int → Int, X3 = zU X2 (i) 58 (0) → (∀ i j, rI (X3 i j)) → (∀ X4 : Nat → Int → Int, X4 = zU X3 (i) 59 (0) → (∀ i j, rI (X4 i j)) → (∀ X5 : Nat → Int → Int, X5 = zU X4 (i) 60 (0) → (∀ i j, rI (X5 i j)) → (∀ X6 : Nat → Int → Int, X6 = zU X5 (i) 61 (0) → (∀ i j, rI (X6 i j)) → ((0 ≤ (0 : Int) ∧ (0 : Int) ≤ 656 ∧ (∀ z, z ≠ i + 24 → X6 z = X6 z) ∧ ∀ y, 0 ≤ y → y < (0 : Int) → X6 (i + 24) y = 0) ∧ (∀ (k : Int) (X8 : Nat → Int → Int), rI k → (∀ i j, rI (X8 i j)) → (0 ≤ k ∧ k ≤ 656 ∧ (∀ z, z ≠ i + 24 → X8 z = X6 z) ∧ ∀ y, 0 ≤ y → y < k → X8 (i + 24) y = 0) → (((656 ≤ k) → ((∃ q : Nat, (1 : Int) = q ∧ 1 ≤ q ∧ q ≤ 40 ∧ flK X X8 Y Y i ∧ lwR X X8 i a q) ∧ (∀ (k : Int) (X11 : Nat → Int → Int) (Y12 : Nat → Int → Int), rI k → (∀ i j, rI (X11 i j)) → (∀ i j, rL (Y12 i j)) → (∃ q : Nat, k = q ∧ 1 ≤ q ∧ q ≤ 40 ∧ flK X X11 Y Y12 i ∧ lwR X X11 i a q) → (((40 ≤ k) → (flK X (X11) Y (Y12) i ∧ lwR X (X11) i (a) 40)) ∧ ((¬ (40 ≤ k)) → (((((k).tmod (10)) ≤ 0) → ((rI (k + 1)) ∧ (∃ q : Nat, k + 1 = q ∧ 1 ≤ q ∧ q ≤ 40 ∧ flK X X11 Y Y12 i ∧ lwR X X11 i a q) ∧ (((40 - (k + 1)).toNat) < ((40 - (k)).toNat)))) ∧ ((¬ (((k).tmod (10)) ≤ 0)) → (((oA X11 i ∧ (1 ≤ X11 i 27 ∧ X11 i 27 ≤ 15) ∧ oBs X11 i (X11 i 27 - 1).toNat ∧ (1 ≤ mG X11 i 1 ∧ mG X11 i 1 ≤ 99) ∧ (1 ≤ mG X11 i 2 ∧ mG X11 i 2 ≤ 99)) ∧ (oFd X11 i ∧ oFdr X11 i (X11 i 40)) ∧ (1 ≤ k ∧ k < 40) ∧ 0 < (k).tmod 10) ∧ (∀ X17 : Nat → Int → Int, (∀ i j, rI (X17 i j)) → ∀ Y18 : Nat → Int → Int, (∀ i j, rL (Y18 i j)) → (lwK X11 (X17) Y12 (Y18) i ∧ ∀ yy : Nat, yy ≤ 40 → (X17) (i + 23) yy = lwT X11 i (k) yy ∧ -1 ≤ lwT X11 i (k) yy ∧ lwT X11 i (k) yy < X11 i 27) → ((oLq X17 i) ∧ ((((mSo X17 i) = false) → ((rI (k + 1)) ∧ (∃ q : Nat, k + 1 = q ∧ 1 ≤ q ∧ q ≤ 40 ∧ flK X X17 Y Y18 i ∧ lwR X X17 i a q) ∧ (((40 - (k + 1)).toNat) < ((40 - (k)).toNat)))) ∧ (((mSo X17 i) = true) → (((1 ≤ k ∧ k < 40) ∧ oRt X17 i ∧ (0 ≤ X17 i 56 ∧ X17 i 56 ≤ 100) ∧ (0 ≤ X17 i 61 ∧ X17 i 61 ≤ 100) ∧ (∀ yy vv : Nat, yy ≤ 40 → vv < 16 → 0 ≤ X17 (i + 24) (16 * yy + vv) ∧ X17 (i + 24) (16 * yy + vv) ≤ 100)) ∧ (∀ X23 : Nat → Int → Int, (∀ i j, rI (X23 i j)) → ((∀ z, z ≠ i → z ≠ i + 24 → (X23) z = X17 z) ∧ (∀ z, (z < 56 ∨ 61 < z) → (X23) i z = X17 i z) ∧ ((X23) i 56 = X17 i 56 + 1 ∧ (X23) i 57 = (if X17 i 56 = a then k else X17 i 57) ∧ (X23) i 58 = zOr (X17 i 58) (zShl 1 ((k).tdiv 20)) ∧ (X23) i 59 = zOr (X17 i 59) (zShl 1 (((k).tdiv 10).tmod 2)) ∧ (X23) i 60 = zOr (X17 i 60) (zShl 1 ((k).tmod 10)) ∧ (X23) i 61 = X17 i 61 + (k).tdiv 20) ∧ ∀ yy vv : Nat, yy ≤ 40 → vv < 16 → (X23) (i + 24) (16 * yy + vv) = X17 (i + 24) (16 * yy + vv) + if lvl (X17 (i + 23) yy) = vv then 1 else 0) → ((rI (k + 1)) ∧ (∃ q : Nat, k + 1 = q ∧ 1 ≤ q ∧ q ≤ 40 ∧ flK X X23 Y Y18 i ∧ lwR X X23 i a q) ∧ (((40 - (k + 1)).toNat) < ((40 - (k)).toNat))))))))))))))))) ∧ ((¬ (656 ≤ k)) → ((0 ≤ k ∧ k < 656) ∧ (∀ X26 : Nat → Int → Int, X26 = zU X8 (i + 24) (k) (0) → (∀ i j, rI (X26 i j)) → ((rI (k + 1)) ∧ (0 ≤ k + 1 ∧ k + 1 ≤ 656 ∧ (∀ z, z ≠ i + 24 → X26 z = X6 z) ∧ ∀ y, 0 ≤ y → y < k + 1 → X26 (i + 24) y = 0) ∧ (((656 - (k + 1)).toNat) < ((656 - (k)).toNat))))))))))))))
set_option maxHeartbeats 4000000 in
set_option maxRecDepth 100000 in
theorem w_X11_findLaws {l : Launch} {D : va_G} {cy : Nat → ClassId} {bs N : Nat} {sa : Nat → Nat} {kd len : Nat → Nat} {X Y : Nat → Int → Int} {R : Nat → Int → Option Nat} {i : Nat} (hM : zM N kd len R i) (a : Int) (ha : rI a) (hF : F_X11_findLaws i X Y R a) : Met l yX11_findLaws (.code yX11_findLaws cX11_findLaws 3 none :: zTB) (zRm 7 158) (zPc D cy bs sa N kd len X Y R [.ref (bs + (i)), .int (zI (a))]) (zQv D cy bs N kd len (fun st => st.2.2 = R ∧ (flK X (st.1) Y (st.2.1) i ∧ lwR X (st.1) i (a) 40))) 0 0 (zA bs) := by
  refine zstart (by decide) (Nat.le_of_ble_eq_true rfl) ?_
  intro p e s m args below meth c ls C hE hH hr hlk hnm hl hargs
  have hF := hF hH.2.2.1 hH.2.2.2
  have hS : va_S (zA bs) s.heap s.heap [] := va_S.rf
  have hl : lv_has ls 3 [(0, .ref (bs + (i))), (1, .int (zI (a)))] := hl
  refine lv_aload_n C.1 C.2.1 dX11_findLaws_0 rfl (lv_at hl 0 rfl) ?_
  refine zd_iconst C dX11_findLaws_1 ?_
  refine zp11_56 C hH hS (zM_n0 hM) (zM_k0 hM) q_1343 (by decide) dX11_findLaws_2 (fun H locs hH hS => ?_)
  obtain ⟨X1, eX1⟩ : ∃ z, z = zU X (i) 56 (0) := ⟨_, rfl⟩
  rw [← eX1] at hH
  have hF := hF X1 eX1 hH.2.2.1
  refine lv_aload_n C.1 C.2.1 dX11_findLaws_5 rfl (lv_at hl 0 rfl) ?_
  refine zd_bipush C (by decide) dX11_findLaws_6 ?_
  refine zp11_57 C hH hS (zM_n0 hM) (zM_k0 hM) q_1344 (by decide) dX11_findLaws_8 (fun H locs hH hS => ?_)
  obtain ⟨X2, eX2⟩ : ∃ z, z = zU X1 (i) 57 ((-2)) := ⟨_, rfl⟩
  rw [← eX2] at hH
  have hF := hF X2 eX2 hH.2.2.1
  refine lv_aload_n C.1 C.2.1 dX11_findLaws_11 rfl (lv_at hl 0 rfl) ?_
  refine zd_iconst C dX11_findLaws_12 ?_
  refine zp11_58 C hH hS (zM_n0 hM) (zM_k0 hM) q_1345 (by decide) dX11_findLaws_13 (fun H locs hH hS => ?_)
  obtain ⟨X3, eX3⟩ : ∃ z, z = zU X2 (i) 58 (0) := ⟨_, rfl⟩
  rw [← eX3] at hH
  have hF := hF X3 eX3 hH.2.2.1
  refine lv_aload_n C.1 C.2.1 dX11_findLaws_16 rfl (lv_at hl 0 rfl) ?_
  refine zd_iconst C dX11_findLaws_17 ?_
  refine zp11_59 C hH hS (zM_n0 hM) (zM_k0 hM) q_1346 (by decide) dX11_findLaws_18 (fun H locs hH hS => ?_)
  obtain ⟨X4, eX4⟩ : ∃ z, z = zU X3 (i) 59 (0) := ⟨_, rfl⟩
  rw [← eX4] at hH
  have hF := hF X4 eX4 hH.2.2.1
  refine lv_aload_n C.1 C.2.1 dX11_findLaws_21 rfl (lv_at hl 0 rfl) ?_
  refine zd_iconst C dX11_findLaws_22 ?_
  refine zp11_60 C hH hS (zM_n0 hM) (zM_k0 hM) q_1347 (by decide) dX11_findLaws_23 (fun H locs hH hS => ?_)
  obtain ⟨X5, eX5⟩ : ∃ z, z = zU X4 (i) 60 (0) := ⟨_, rfl⟩
  rw [← eX5] at hH
  have hF := hF X5 eX5 hH.2.2.1
  refine lv_aload_n C.1 C.2.1 dX11_findLaws_26 rfl (lv_at hl 0 rfl) ?_
  refine zd_iconst C dX11_findLaws_27 ?_
  refine zp11_61 C hH hS (zM_n0 hM) (zM_k0 hM) q_1348 (by decide) dX11_findLaws_28 (fun H locs hH hS => ?_)
  obtain ⟨X6, eX6⟩ : ∃ z, z = zU X5 (i) 61 (0) := ⟨_, rfl⟩
  rw [← eX6] at hH
  have hF := hF X6 eX6 hH.2.2.1
  refine zd_iconst C dX11_findLaws_31 ?_
  refine lv_istore_n (lv' := [(2, .int (zI (0))), (0, .ref (bs + (i))), (1, .int (zI (a)))]) C.1 C.2.1 dX11_findLaws_32 rfl hl (by decide) rfl (fun ls hl => ?_)
  obtain ⟨hI7, hF⟩ := hF
  have L7 : ∀ (fu : Nat) (k : Int) (X8 : Nat → Int → Int), rI k → (0 ≤ k ∧ k ≤ 656 ∧ (∀ z, z ≠ i + 24 → X8 z = X6 z) ∧ ∀ y, 0 ≤ y → y < k → X8 (i + 24) y = 0) → ((656 - (k)).toNat) < fu → ∀ (H : Heap) (locs : List Loc) (ls : Array Slot), zH D cy bs N kd len X8 Y R H → va_S (zA bs) s.heap H locs → lv_has ls 3 [(2, .int (zI (k))), (0, .ref (bs + (i))), (1, .int (zI (a)))] → W p l e (zRm 7 158) s m args below meth c H locs 0 0 (MQ below (zQv D cy bs N kd len (fun st => st.2.2 = R ∧ (flK X (st.1) Y (st.2.1) i ∧ lwR X (st.1) i (a) 40))) args s 0 0 (zA bs)) (F0 m 33 ls []) := by
    intro fu
    induction fu with
    | zero => intro k X8 _ _ hmu; exact absurd hmu (Nat.not_lt_zero _)
    | succ fu ih7 =>
      intro k X8 hk hI hmu7 H locs ls hH hS hl
      have hF := hF k X8 hk hH.2.2.1 hI
      refine lv_iload_n C.1 C.2.1 dX11_findLaws_33 rfl (lv_at hl 0 rfl) ?_
      refine zd_sipush C (by decide) dX11_findLaws_34 ?_
      refine zd_icmp_ge C hk (by decide) 53 dX11_findLaws_37 (by decide) (fun c9 => ?_) (fun c9 => ?_)
      · have hF := hF.1 c9
        refine zd_iconst C dX11_findLaws_53 ?_
        refine lv_istore_n (lv' := [(2, .int (zI (1))), (0, .ref (bs + (i))), (1, .int (zI (a)))]) C.1 C.2.1 dX11_findLaws_54 rfl hl (by decide) rfl (fun ls hl => ?_)
        obtain ⟨hI10, hF⟩ := hF
        have L10 : ∀ (fu : Nat) (k : Int) (X11 : Nat → Int → Int) (Y12 : Nat → Int → Int), rI k → (∃ q : Nat, k = q ∧ 1 ≤ q ∧ q ≤ 40 ∧ flK X X11 Y Y12 i ∧ lwR X X11 i a q) → ((40 - (k)).toNat) < fu → ∀ (H : Heap) (locs : List Loc) (ls : Array Slot), zH D cy bs N kd len X11 Y12 R H → va_S (zA bs) s.heap H locs → lv_has ls 3 [(2, .int (zI (k))), (0, .ref (bs + (i))), (1, .int (zI (a)))] → W p l e (zRm 7 158) s m args below meth c H locs 0 0 (MQ below (zQv D cy bs N kd len (fun st => st.2.2 = R ∧ (flK X (st.1) Y (st.2.1) i ∧ lwR X (st.1) i (a) 40))) args s 0 0 (zA bs)) (F0 m 55 ls []) := by
          intro fu
          induction fu with
          | zero => intro k X11 Y12 _ _ hmu; exact absurd hmu (Nat.not_lt_zero _)
          | succ fu ih10 =>
            intro k X11 Y12 hk hI hmu10 H locs ls hH hS hl
            have hF := hF k X11 Y12 hk hH.2.2.1 hH.2.2.2 hI
            refine lv_iload_n C.1 C.2.1 dX11_findLaws_55 rfl (lv_at hl 0 rfl) ?_
            refine zd_bipush C (by decide) dX11_findLaws_56 ?_
            refine zd_icmp_ge C hk (by decide) 92 dX11_findLaws_58 (by decide) (fun c13 => ?_) (fun c13 => ?_)
            · have hF := hF.1 c13
              exact zd_vret C hr hlk hH hS (⟨rfl, hF⟩) dX11_findLaws_92
            · have hF := hF.2 c13
              refine lv_iload_n C.1 C.2.1 dX11_findLaws_61 rfl (lv_at hl 0 rfl) ?_
              refine zd_bipush C (by decide) dX11_findLaws_62 ?_
              refine zd_irem C hk (by decide) (by decide) (by decide) dX11_findLaws_64 ?_
              refine zd_if_le C (tmod_rI hk (show (10 : Int) ≠ -1 from (by decide))) 86 dX11_findLaws_65 (by decide) (fun c14 => ?_) (fun c14 => ?_)
              · have hF := hF.1 c14
                refine zd_iinc (k := 0) (lv' := [(2, .int (zI (k + 1))), (0, .ref (bs + (i))), (1, .int (zI (a)))]) C hl rfl dX11_findLaws_86 (by decide) rfl (fun ls hl => ?_)
                refine lv_goto (tgt := 55) C.1 C.2.1 dX11_findLaws_89 (by decide) ?_
                obtain ⟨o15, hF⟩ := hF
                exact ih10 (k + 1) X11 Y12 o15 hF.1 (Nat.lt_of_lt_of_le hF.2 (Nat.le_of_lt_succ hmu10)) _ _ _ hH hS (lv_sub hl [0, 1, 2] rfl)
              · have hF := hF.2 c14
                refine lv_aload_n C.1 C.2.1 dX11_findLaws_68 rfl (lv_at hl 1 rfl) ?_
                refine lv_iload_n C.1 C.2.1 dX11_findLaws_69 rfl (lv_at hl 0 rfl) ?_
                obtain ⟨o16, hF⟩ := hF
                refine zgov (zrunV (As := [.int (zI (k))]) (rest := []) C hE hH hS hl.1 (c_X11_playBy (l := l) hM (k) hk o16) k_RX11_515 ⟨Nat.le_of_ble_eq_true rfl, Nat.le_of_ble_eq_true rfl⟩ (zM_n0 hM) (zM_k0 hM) rfl rfl rfl (Nat.le_of_ble_eq_true rfl) dX11_findLaws_70 ⟨Nat.zero_le _, Nat.zero_le _⟩) hS (fun X17 Y18 Rq H locs hq hH hS => ?_)
                obtain ⟨h9R, hq⟩ := hq
                dsimp only at h9R
                rw [h9R] at hH
                have hF := hF X17 hH.2.2.1 Y18 hH.2.2.2 hq
                refine lv_aload_n C.1 C.2.1 dX11_findLaws_73 rfl (lv_at hl 1 rfl) ?_
                obtain ⟨o19, hF⟩ := hF
                refine zgoi (zrunV (As := []) (rest := []) C hE hH hS hl.1 (c_X11_isSo (l := l) hM  o19) k_RX11_518 ⟨Nat.le_of_ble_eq_true rfl, Nat.le_of_ble_eq_true rfl⟩ (zM_n0 hM) (zM_k0 hM) rfl rfl rfl (Nat.le_of_ble_eq_true rfl) dX11_findLaws_74 ⟨Nat.zero_le _, Nat.zero_le _⟩) hS (fun rq Xq Yq Rq H locs hrq hq hH hS => ?_)
                obtain ⟨h91, h92⟩ := hq
                have h93 : Xq = X17 := congrArg (fun z => z.1) h92
                have h94 : Yq = Y18 := congrArg (fun z => z.2.1) h92
                have h95 : Rq = R := congrArg (fun z => z.2.2) h92
                rw [h93, h94, h95] at hH
                subst h91
                refine zd_ifB_eq C 86 dX11_findLaws_77 (by decide) (fun c20 => ?_) (fun c20 => ?_)
                · have hF := hF.1 c20
                  refine zd_iinc (k := 0) (lv' := [(2, .int (zI (k + 1))), (0, .ref (bs + (i))), (1, .int (zI (a)))]) C hl rfl dX11_findLaws_86 (by decide) rfl (fun ls hl => ?_)
                  refine lv_goto (tgt := 55) C.1 C.2.1 dX11_findLaws_89 (by decide) ?_
                  obtain ⟨o21, hF⟩ := hF
                  exact ih10 (k + 1) X17 Y18 o21 hF.1 (Nat.lt_of_lt_of_le hF.2 (Nat.le_of_lt_succ hmu10)) _ _ _ hH hS (lv_sub hl [0, 1, 2] rfl)
                · have hF := hF.2 c20
                  refine lv_aload_n C.1 C.2.1 dX11_findLaws_80 rfl (lv_at hl 1 rfl) ?_
                  refine lv_iload_n C.1 C.2.1 dX11_findLaws_81 rfl (lv_at hl 0 rfl) ?_
                  refine lv_iload_n C.1 C.2.1 dX11_findLaws_82 rfl (lv_at hl 2 rfl) ?_
                  obtain ⟨o22, hF⟩ := hF
                  refine zgov (zrunV (As := [.int (zI (k)), .int (zI (a))]) (rest := []) C hE hH hS hl.1 (c_X11_noteFit (l := l) hM (k) hk (a) ha o22) k_RX11_521 ⟨Nat.le_of_ble_eq_true rfl, Nat.le_of_ble_eq_true rfl⟩ (zM_n0 hM) (zM_k0 hM) rfl rfl rfl (Nat.le_of_ble_eq_true rfl) dX11_findLaws_83 ⟨Nat.zero_le _, Nat.zero_le _⟩) hS (fun X23 Yq Rq H locs hq hH hS => ?_)
                  obtain ⟨h9Y, h9R, hq⟩ := hq
                  dsimp only at h9Y h9R
                  rw [h9Y, h9R] at hH
                  have hF := hF X23 hH.2.2.1 hq
                  refine zd_iinc (k := 0) (lv' := [(2, .int (zI (k + 1))), (0, .ref (bs + (i))), (1, .int (zI (a)))]) C hl rfl dX11_findLaws_86 (by decide) rfl (fun ls hl => ?_)
                  refine lv_goto (tgt := 55) C.1 C.2.1 dX11_findLaws_89 (by decide) ?_
                  obtain ⟨o24, hF⟩ := hF
                  exact ih10 (k + 1) X23 Y18 o24 hF.1 (Nat.lt_of_lt_of_le hF.2 (Nat.le_of_lt_succ hmu10)) _ _ _ hH hS (lv_sub hl [0, 1, 2] rfl)
        exact L10 (((40 - ((1 : Int))).toNat) + 1) ((1 : Int)) X8 Y (by decide) hI10 (Nat.lt_succ_self _) _ _ _ hH hS (lv_sub hl [0, 1, 2] rfl)
      · have hF := hF.2 c9
        refine lv_aload_n C.1 C.2.1 dX11_findLaws_40 rfl (lv_at hl 1 rfl) ?_
        refine zg11_63 C hH (zM_n0 hM) (zM_k0 hM) q_1350 (zM_r24 hM) dX11_findLaws_41 ?_
        refine lv_iload_n C.1 C.2.1 dX11_findLaws_44 rfl (lv_at hl 0 rfl) ?_
        refine zd_iconst C dX11_findLaws_45 ?_
        obtain ⟨o25, hF⟩ := hF
        refine zd_iast C hH hS (zM_n24 hM) (zM_k24 hM) o25.1 (by rw [zM_l24 hM]; exact o25.2) (by rw [zM_l24 hM]; decide) (by decide) dX11_findLaws_46 (fun H locs hH hS => ?_)
        obtain ⟨X26, eX26⟩ : ∃ z, z = zU X8 (i + 24) (k) (0) := ⟨_, rfl⟩
        rw [← eX26] at hH
        have hF := hF X26 eX26 hH.2.2.1
        refine zd_iinc (k := 0) (lv' := [(2, .int (zI (k + 1))), (0, .ref (bs + (i))), (1, .int (zI (a)))]) C hl rfl dX11_findLaws_47 (by decide) rfl (fun ls hl => ?_)
        refine lv_goto (tgt := 33) C.1 C.2.1 dX11_findLaws_50 (by decide) ?_
        obtain ⟨o27, hF⟩ := hF
        exact ih7 (k + 1) X26 o27 hF.1 (Nat.lt_of_lt_of_le hF.2 (Nat.le_of_lt_succ hmu7)) _ _ _ hH hS (lv_sub hl [0, 1, 2] rfl)
  exact L7 (((656 - ((0 : Int))).toNat) + 1) ((0 : Int)) X6 (by decide) hI7 (Nat.lt_succ_self _) _ _ _ hH hS (lv_sub hl [0, 1, 2] rfl)
theorem v_X11_findLaws {X Y : Nat → Int → Int} {R : Nat → Int → Option Nat} {i : Nat} (a : Int) (ha : rI a) (hp : oFl X i) : F_X11_findLaws i X Y R a := by
  unfold F_X11_findLaws
  intro hX hY
  intro X1
  intro eX1
  intro rX1
  intro X2
  intro eX2
  intro rX2
  intro X3
  intro eX3
  intro rX3
  intro X4
  intro eX4
  intro rX4
  intro X5
  intro eX5
  intro rX5
  intro X6
  intro eX6
  have o6 : ∀ z, z ≠ i → X6 z = X z := fun z h => by rw [eX6, zU_o h, eX5, zU_o h, eX4, zU_o h, eX3, zU_o h, eX2, zU_o h, eX1, zU_o h]
  have s6 : ∀ z, (z < 56 ∨ 61 < z) → X6 i z = X i z := fun z hz => by rw [eX6, zU_n (by omega), eX5, zU_n (by omega), eX4, zU_n (by omega), eX3, zU_n (by omega), eX2, zU_n (by omega), eX1, zU_n (by omega)]
  have v6 : X6 i 56 = 0 ∧ X6 i 57 = -2 ∧ X6 i 58 = 0 ∧ X6 i 59 = 0 ∧ X6 i 60 = 0 ∧ X6 i 61 = 0 := by
    rw [eX6, eX5, eX4, eX3, eX2, eX1]
    refine ⟨?_, ?_, ?_, ?_, ?_, ?_⟩
    · rw [zU_n (by omega), zU_n (by omega), zU_n (by omega), zU_n (by omega), zU_n (by omega), zU_s]
    · rw [zU_n (by omega), zU_n (by omega), zU_n (by omega), zU_n (by omega), zU_s]
    · rw [zU_n (by omega), zU_n (by omega), zU_n (by omega), zU_s]
    · rw [zU_n (by omega), zU_n (by omega), zU_s]
    · rw [zU_n (by omega), zU_s]
    · rw [zU_s]
  intro rX6
  refine ⟨?_, ?_⟩
  · exact ⟨by decide, by decide, fun _ _ => rfl, fun y y0 y1 => by omega⟩
  intro k X8
  intro _
  intro rX8
  intro h1
  obtain ⟨k0, k1, o8, r8⟩ := h1
  refine ⟨?_, ?_⟩
  · intro c1
    refine ⟨?_, ?_⟩
    · have f0 : lwF X i 0 = false := lwF_m (by decide)
      refine ⟨1, rfl, by decide, by decide, ⟨fun z z1 z2 z3 z4 z5 z6 => by rw [o8 z z6, o6 z z1], fun s hs => by rw [o8 _ (by omega), s6 s (by omega)], fun _ _ _ _ => rfl⟩, lwR_no (q := 0) f0 ?_⟩
      have e8 : X8 i = X6 i := o8 _ (by omega)
      refine ⟨by rw [e8]; exact v6.1, by rw [e8]; exact v6.2.1, by rw [e8]; exact v6.2.2.1, by rw [e8]; exact v6.2.2.2.1, by rw [e8]; exact v6.2.2.2.2.1, by rw [e8]; exact v6.2.2.2.2.2, fun y v hy hv => ?_⟩
      exact r8 _ (by omega) (by omega)
    intro k X11 Y12
    intro _
    intro rX11
    intro rY12
    intro h2
    obtain ⟨q, hq, q1, q40, fk, lr⟩ := h2
    subst hq
    obtain ⟨of, eT, eL, eF⟩ := oFl_k fk hp
    refine ⟨?_, ?_⟩
    · intro c2
      have e40 : q = 40 := by omega
      subst e40
      exact ⟨fk, lr⟩
    intro c3
    refine ⟨?_, ?_⟩
    · intro c4
      have nx := lwR_no (lwF_m c4) lr
      refine ⟨?_, ?_⟩
      · first | omega | exact ⟨by omega, by omega⟩ | decide | assumption | exact ⟨by omega, by omega, by omega⟩ | exact ⟨by decide, by decide⟩
      refine ⟨?_, ?_⟩
      · exact ⟨q + 1, by omega, by omega, by omega, fk, nx⟩
      first | omega | exact ⟨by omega, by omega⟩ | decide | assumption | exact ⟨by omega, by omega, by omega⟩ | exact ⟨by decide, by decide⟩
    intro c5
    have e10 : (q : Int).tmod 10 = ((q % 10 : Nat) : Int) := rfl
    have e20 : (q : Int).tdiv 20 = ((q / 20 : Nat) : Int) := rfl
    have e102 : ((q : Int).tdiv 10).tmod 2 = ((q / 10 % 2 : Nat) : Int) := rfl
    refine ⟨?_, ?_⟩
    · exact ⟨of.1, of.2.1, by omega, by omega⟩
    intro X17
    intro rX17
    intro Y18
    intro rY18
    intro h3
    obtain ⟨lk, rw17⟩ := h3
    rw [eT] at rw17
    have fk2 := fk.tr (lwK_fl lk)
    obtain ⟨of2, eT2, eL2, eF2⟩ := oFl_k fk2 hp
    have lr2 : lwR X X17 i a q := by
      obtain ⟨g1, g2, g3, g4, g5, g6, g7⟩ := lr
      refine ⟨(lk.2.1 _ (by omega)).trans g1, (lk.2.1 _ (by omega)).trans g2, (lk.2.1 _ (by omega)).trans g3, (lk.2.1 _ (by omega)).trans g4, (lk.2.1 _ (by omega)).trans g5, (lk.2.1 _ (by omega)).trans g6, fun y v hy hv => ?_⟩
      rw [lk.1 _ (by omega) (by omega) (by omega) (by omega) (by omega)]
      exact g7 y v hy hv
    have b27 : X11 i 27 ≤ 15 := of.1.2.1.2
    have hg1 : 0 ≤ mLn X i ∧ mLn X i ≤ 8 := hp.2.2.2.1
    have hg2 : ∀ j, 0 ≤ j → j < mLn X i → (0 ≤ mLf X i j 0 ∧ mLf X i j 0 ≤ 40) ∧ (0 ≤ mLf X i j 1 ∧ mLf X i j 1 ≤ 14) := hp.2.2.2.2
    have eso : mSo X17 i = lwF X i q := by
      unfold mSo lwF
      rw [decide_eq_true (show 0 < q % 10 by omega), Bool.true_and, eL2]
      refine alN_cong (fun k hk => ?_)
      rw [eF2, eF2]
      have hb := (hg2 k (by omega) (by omega)).1
      have w := (rw17 (mLf X i k 0).toNat (by omega)).1
      rw [show (((mLf X i k 0).toNat : Nat) : Int) = mLf X i k 0 by omega] at w
      rw [w]
    rw [eso]
    refine ⟨?_, ?_⟩
    · exact of2.2.2
    refine ⟨?_, ?_⟩
    · intro c6
      have nx := lwR_no c6 lr2
      refine ⟨?_, ?_⟩
      · first | omega | exact ⟨by omega, by omega⟩ | decide | assumption | exact ⟨by omega, by omega, by omega⟩ | exact ⟨by decide, by decide⟩
      refine ⟨?_, ?_⟩
      · exact ⟨q + 1, by omega, by omega, by omega, fk2, nx⟩
      first | omega | exact ⟨by omega, by omega⟩ | decide | assumption | exact ⟨by omega, by omega, by omega⟩ | exact ⟨by decide, by decide⟩
    intro c7
    have rt : oRt X17 i := fun k hk => by
      have w := rw17 k hk
      exact ⟨by omega, by omega⟩
    obtain ⟨g1, g2, g3, g4, g5, g6, g7⟩ := lr2
    have b1 := cN_le (lwF X i) q
    have b6 := smN_b (f := lwF X i) (g := fun e => e / 20) q (fun k hk => by show k / 20 ≤ 1; omega)
    refine ⟨?_, ?_⟩
    · refine ⟨⟨by omega, by omega⟩, rt, by rw [g1]; exact ⟨by omega, by omega⟩, by rw [g6]; exact ⟨by omega, by omega⟩, fun y v hy hv => ?_⟩
      rw [g7 y v hy hv]
      have := cN_le (scF X i y v) q
      exact ⟨by omega, by omega⟩
    intro X23
    intro rX23
    intro h4
    obtain ⟨oo, ss, ⟨w1, w2, w3, w4, w5, w6⟩, w7⟩ := h4
    refine ⟨?_, ?_⟩
    · first | omega | exact ⟨by omega, by omega⟩ | decide | assumption | exact ⟨by omega, by omega, by omega⟩ | exact ⟨by decide, by decide⟩
    refine ⟨?_, ?_⟩
    · refine ⟨q + 1, by omega, by omega, by omega, fk2.tr ⟨fun z z1 z2 z3 z4 z5 z6 => oo z z1 z6, fun s hs => ss s (by omega), fun _ _ _ _ => rfl⟩, ?_⟩
      refine ⟨?_, ?_, ?_, ?_, ?_, ?_, fun y v hy hv => ?_⟩
      · rw [w1, g1]
        show _ = cN (lwF X i) q + if lwF X i q then 1 else 0
        rw [c7]
        rfl
      · rw [w2, g1, g2]
        show _ = if lwF X i q && decide (cN (lwF X i) q = a) then _ else _
        rw [c7, Bool.true_and]
        by_cases e : cN (lwF X i) q = a
        · rw [if_pos e, decide_eq_true e]
          rfl
        · rw [if_neg e, decide_eq_false e]
          rfl
      · rw [w3, g3, e20]
        show _ = if lwF X i q then _ else _
        rw [c7]
        rfl
      · rw [w4, g4, e102]
        show _ = if lwF X i q then _ else _
        rw [c7]
        rfl
      · rw [w5, g5, e10]
        show _ = if lwF X i q then _ else _
        rw [c7]
        rfl
      · rw [w6, g6, e20]
        show _ = if lwF X i q then _ else _
        rw [c7]
        rfl
      · rw [w7 y v hy hv, g7 y v hy hv, (rw17 y hy).1]
        show _ = cN (scF X i y v) q + if scF X i y v q then 1 else 0
        unfold scF
        rw [c7, Bool.true_and]
        by_cases e : lvl (lwT X i q y) = v
        · rw [if_pos e, decide_eq_true e]
          rfl
        · rw [if_neg e, decide_eq_false e]
          rfl
    first | omega | exact ⟨by omega, by omega⟩ | decide | assumption | exact ⟨by omega, by omega, by omega⟩ | exact ⟨by decide, by decide⟩
  intro c8
  
  refine ⟨?_, ?_⟩
  · first | omega | exact ⟨by omega, by omega⟩ | decide | assumption | exact ⟨by omega, by omega, by omega⟩ | exact ⟨by decide, by decide⟩
  intro X26
  intro eX26
  intro rX26
  refine ⟨?_, ?_⟩
  · first | omega | exact ⟨by omega, by omega⟩ | decide | assumption | exact ⟨by omega, by omega, by omega⟩ | exact ⟨by decide, by decide⟩
  refine ⟨?_, ?_⟩
  · refine ⟨by omega, by omega, fun z hz => by rw [eX26, zU_o hz]; exact o8 z hz, fun y y0 y1 => ?_⟩
    rw [eX26]
    by_cases e : y = k
    · rw [e, zU_s]
    · rw [zU_n (by omega)]
      exact r8 y y0 (by omega)
  first | omega | exact ⟨by omega, by omega⟩ | decide | assumption | exact ⟨by omega, by omega, by omega⟩ | exact ⟨by decide, by decide⟩
theorem c_X11_findLaws {l : Launch} {D : va_G} {cy : Nat → ClassId} {bs N : Nat} {sa : Nat → Nat} {kd len : Nat → Nat} {X Y : Nat → Int → Int} {R : Nat → Int → Option Nat} {i : Nat} (hM : zM N kd len R i) (a : Int) (ha : rI a) (hp : oFl X i) : Met l yX11_findLaws (.code yX11_findLaws cX11_findLaws 3 none :: zTB) (zRm 7 158) (zPc D cy bs sa N kd len X Y R [.ref (bs + (i)), .int (zI (a))]) (zQv D cy bs N kd len (fun st => st.2.2 = R ∧ (flK X (st.1) Y (st.2.1) i ∧ lwR X (st.1) i (a) 40))) 0 0 (zA bs) := w_X11_findLaws hM a ha (v_X11_findLaws a ha hp)
