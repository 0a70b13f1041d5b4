/-! A TEXT IS TOLD -/
def txC (X X1 : Nat → Int → Int) (i : Nat) (a b r : Int) : Prop := (cPf X (i + 1) a b = -1 → r = -2 ∧ X1 = zU (zU (zU X (i + 1) 1 0) (i + 1) 2 0) (i + 1) 3 (-1)) ∧
  (cPf X (i + 1) a b ≠ -1 → ∃ X2 X3 : Nat → Int → Int, (∀ z, (z < i + 139 ∨ i + 156 < z) → X2 z = X z) ∧ rdV X2 (i + 139) ∧ lnV X2 (i + 139) ∧ roR X2 (i + 139) a (rdA (X (i + 2)) (X (i + 1) 1).toNat a ((X (i + 1) 1).toNat + 1) (s0R a)) ∧ X3 = zU (zU (zU X2 (i + 1) 1 0) (i + 1) 2 (X2 (i + 139) 3)) (i + 1) 3 (X2 (i + 139) 4) ∧ (X2 (i + 139) 3 ≠ 0 → r = -1 ∧ X1 = X3) ∧ (X2 (i + 139) 3 = 0 → r = cPf X (i + 1) a b ∧ ∃ X4, X1 = zU X4 (i + 3) a (max (X3 (i + 3) a) (r + 1)) ∧ tkP a r X3 X4 (i + 1) (i + 139)))
theorem zWC_tp {N : Nat} {kd len : Nat → Nat} {R R1 : Nat → Int → Option Nat} {i : Nat} (h : zWC N kd len R i) (e : R1 = zU R (i + 139) 5 (some (i + 2))) : zWC N kd len R1 i := by
  have t := (zW_td h).2.1
  have hr := (zRd1_put (zW_rd h).2 ⟨zTold_n1 t, zTold_k1 t, zTold_l1 t⟩ e).1
  have f := (zW_fi h).2
  refine zWC_at h (Or.inr ⟨rfl, zRr_k0 (zW_rd h).2⟩) (fun z hz => by rw [e, zU_o hz]) hr (zFill_V f (fun z _ _ => by rw [e, zU_o (by omega)]) ?_)
  have k8 := zRows_k0 f.2.2.2.2.2.2.2
  have k7 := zRr_k0 (zW_rd h).2
  rw [e, zU_o]
  intro q
  rw [q, k7] at k8
  exact absurd k8 (by decide)
abbrev cX10_text : ByteArray := prog_1_method_4_code
def yX10_text : MethodName := ⟨RX10, "text", "(II)I"⟩
theorem dX10_text_0 : decode cX10_text 0 = .ok (.aload_n 0, 1) := by decide +kernel
theorem dX10_text_1 : decode cX10_text 1 = .ok (.getfield 10, 3) := by decide +kernel
theorem dX10_text_4 : decode cX10_text 4 = .ok (.iload_n 1, 1) := by decide +kernel
theorem dX10_text_5 : decode cX10_text 5 = .ok (.iload_n 2, 1) := by decide +kernel
theorem dX10_text_6 : decode cX10_text 6 = .ok (.invokevirtual 78, 3) := by decide +kernel
theorem dX10_text_9 : decode cX10_text 9 = .ok (.istore_n 3, 1) := by decide +kernel
theorem dX10_text_10 : decode cX10_text 10 = .ok (.iload_n 3, 1) := by decide +kernel
theorem dX10_text_11 : decode cX10_text 11 = .ok (.iconst (-1), 1) := by decide +kernel
theorem dX10_text_12 : decode cX10_text 12 = .ok (.if_icmp .ne 30, 3) := by decide +kernel
theorem dX10_text_15 : decode cX10_text 15 = .ok (.aload_n 0, 1) := by decide +kernel
theorem dX10_text_16 : decode cX10_text 16 = .ok (.getfield 10, 3) := by decide +kernel
theorem dX10_text_19 : decode cX10_text 19 = .ok (.iconst 0, 1) := by decide +kernel
theorem dX10_text_20 : decode cX10_text 20 = .ok (.putfield 70, 3) := by decide +kernel
theorem dX10_text_23 : decode cX10_text 23 = .ok (.aload_n 0, 1) := by decide +kernel
theorem dX10_text_24 : decode cX10_text 24 = .ok (.getfield 10, 3) := by decide +kernel
theorem dX10_text_27 : decode cX10_text 27 = .ok (.iconst 0, 1) := by decide +kernel
theorem dX10_text_28 : decode cX10_text 28 = .ok (.putfield 82, 3) := by decide +kernel
theorem dX10_text_31 : decode cX10_text 31 = .ok (.aload_n 0, 1) := by decide +kernel
theorem dX10_text_32 : decode cX10_text 32 = .ok (.getfield 10, 3) := by decide +kernel
theorem dX10_text_35 : decode cX10_text 35 = .ok (.iconst (-1), 1) := by decide +kernel
theorem dX10_text_36 : decode cX10_text 36 = .ok (.putfield 85, 3) := by decide +kernel
theorem dX10_text_39 : decode cX10_text 39 = .ok (.bipush (-2), 2) := by decide +kernel
theorem dX10_text_41 : decode cX10_text 41 = .ok (.ireturn, 1) := by decide +kernel
theorem dX10_text_42 : decode cX10_text 42 = .ok (.aload_n 0, 1) := by decide +kernel
theorem dX10_text_43 : decode cX10_text 43 = .ok (.getfield 27, 3) := by decide +kernel
theorem dX10_text_46 : decode cX10_text 46 = .ok (.iload_n 1, 1) := by decide +kernel
theorem dX10_text_47 : decode cX10_text 47 = .ok (.aload_n 0, 1) := by decide +kernel
theorem dX10_text_48 : decode cX10_text 48 = .ok (.getfield 10, 3) := by decide +kernel
theorem dX10_text_51 : decode cX10_text 51 = .ok (.getfield 88, 3) := by decide +kernel
theorem dX10_text_54 : decode cX10_text 54 = .ok (.aload_n 0, 1) := by decide +kernel
theorem dX10_text_55 : decode cX10_text 55 = .ok (.getfield 10, 3) := by decide +kernel
theorem dX10_text_58 : decode cX10_text 58 = .ok (.getfield 70, 3) := by decide +kernel
theorem dX10_text_61 : decode cX10_text 61 = .ok (.invokevirtual 92, 3) := by decide +kernel
theorem dX10_text_64 : decode cX10_text 64 = .ok (.aload_n 0, 1) := by decide +kernel
theorem dX10_text_65 : decode cX10_text 65 = .ok (.getfield 10, 3) := by decide +kernel
theorem dX10_text_68 : decode cX10_text 68 = .ok (.iconst 0, 1) := by decide +kernel
theorem dX10_text_69 : decode cX10_text 69 = .ok (.putfield 70, 3) := by decide +kernel
theorem dX10_text_72 : decode cX10_text 72 = .ok (.aload_n 0, 1) := by decide +kernel
theorem dX10_text_73 : decode cX10_text 73 = .ok (.getfield 10, 3) := by decide +kernel
theorem dX10_text_76 : decode cX10_text 76 = .ok (.aload_n 0, 1) := by decide +kernel
theorem dX10_text_77 : decode cX10_text 77 = .ok (.getfield 27, 3) := by decide +kernel
theorem dX10_text_80 : decode cX10_text 80 = .ok (.getfield 96, 3) := by decide +kernel
theorem dX10_text_83 : decode cX10_text 83 = .ok (.putfield 82, 3) := by decide +kernel
theorem dX10_text_86 : decode cX10_text 86 = .ok (.aload_n 0, 1) := by decide +kernel
theorem dX10_text_87 : decode cX10_text 87 = .ok (.getfield 10, 3) := by decide +kernel
theorem dX10_text_90 : decode cX10_text 90 = .ok (.aload_n 0, 1) := by decide +kernel
theorem dX10_text_91 : decode cX10_text 91 = .ok (.getfield 27, 3) := by decide +kernel
theorem dX10_text_94 : decode cX10_text 94 = .ok (.getfield 97, 3) := by decide +kernel
theorem dX10_text_97 : decode cX10_text 97 = .ok (.putfield 85, 3) := by decide +kernel
theorem dX10_text_100 : decode cX10_text 100 = .ok (.aload_n 0, 1) := by decide +kernel
theorem dX10_text_101 : decode cX10_text 101 = .ok (.getfield 27, 3) := by decide +kernel
theorem dX10_text_104 : decode cX10_text 104 = .ok (.getfield 96, 3) := by decide +kernel
theorem dX10_text_107 : decode cX10_text 107 = .ok (.ifCond .eq 5, 3) := by decide +kernel
theorem dX10_text_110 : decode cX10_text 110 = .ok (.iconst (-1), 1) := by decide +kernel
theorem dX10_text_111 : decode cX10_text 111 = .ok (.ireturn, 1) := by decide +kernel
theorem dX10_text_112 : decode cX10_text 112 = .ok (.aload_n 0, 1) := by decide +kernel
theorem dX10_text_113 : decode cX10_text 113 = .ok (.getfield 10, 3) := by decide +kernel
theorem dX10_text_116 : decode cX10_text 116 = .ok (.iload_n 1, 1) := by decide +kernel
theorem dX10_text_117 : decode cX10_text 117 = .ok (.iload_n 3, 1) := by decide +kernel
theorem dX10_text_118 : decode cX10_text 118 = .ok (.aload_n 0, 1) := by decide +kernel
theorem dX10_text_119 : decode cX10_text 119 = .ok (.getfield 27, 3) := by decide +kernel
theorem dX10_text_122 : decode cX10_text 122 = .ok (.invokevirtual 98, 3) := by decide +kernel
theorem dX10_text_125 : decode cX10_text 125 = .ok (.iload_n 3, 1) := by decide +kernel
theorem dX10_text_126 : decode cX10_text 126 = .ok (.ireturn, 1) := by decide +kernel
theorem q_613 : Cond.methodLink RX10 78 yX9_placeFor ∈ zTB := zmem 613 (by decide +kernel) rfl
theorem q_614 : Cond.instanceMethod yX9_placeFor ∈ zTB := zmem 614 (by decide +kernel) rfl
theorem q_615 : Cond.selects RX9 yX9_placeFor yX9_placeFor ∈ zTB := zmem 615 (by decide +kernel) rfl
theorem q_616 : Cond.code yX9_placeFor cX9_placeFor 3 (some .int) ∈ zTB := zmem 616 (by decide +kernel) rfl
theorem k_RX10_78 : zLv RX10 78 RX9 yX9_placeFor cX9_placeFor 3 (some .int) 2 := ⟨⟨q_613, q_614, q_615, q_130, q_616⟩, rfl, ⟨by decide, by decide⟩, by decide +kernel⟩
theorem q_572 : Cond.fieldLink RX10 27 RX10 "reader" "LWorkChains$Reader;" ∈ zTB := zmem 572 (by decide +kernel) rfl
theorem q_280 : Cond.fieldLink RX10 88 RX9 "tape" "[B" ∈ zTB := zmem 280 (by decide +kernel) rfl
theorem q_621 : Cond.methodLink RX10 92 yX7_readAs ∈ zTB := zmem 621 (by decide +kernel) rfl
theorem q_622 : Cond.instanceMethod yX7_readAs ∈ zTB := zmem 622 (by decide +kernel) rfl
theorem q_623 : Cond.selects RX7 yX7_readAs yX7_readAs ∈ zTB := zmem 623 (by decide +kernel) rfl
theorem q_624 : Cond.code yX7_readAs cX7_readAs 5 none ∈ zTB := zmem 624 (by decide +kernel) rfl
theorem k_RX10_92 : zLv RX10 92 RX7 yX7_readAs cX7_readAs 5 none 3 := ⟨⟨q_621, q_622, q_623, q_134, q_624⟩, rfl, ⟨by decide, by decide⟩, by decide +kernel⟩
theorem q_329 : Cond.fieldLink RX10 96 RX7 "fault" "I" ∈ zTB := zmem 329 (by decide +kernel) rfl
theorem q_331 : Cond.fieldLink RX10 97 RX7 "faultPlace" "I" ∈ zTB := zmem 331 (by decide +kernel) rfl
theorem q_783 : Cond.methodLink RX10 98 yX9_take ∈ zTB := zmem 783 (by decide +kernel) rfl
theorem q_784 : Cond.instanceMethod yX9_take ∈ zTB := zmem 784 (by decide +kernel) rfl
theorem q_785 : Cond.selects RX9 yX9_take yX9_take ∈ zTB := zmem 785 (by decide +kernel) rfl
theorem q_786 : Cond.code yX9_take cX9_take 4 none ∈ zTB := zmem 786 (by decide +kernel) rfl
theorem k_RX10_98 : zLv RX10 98 RX9 yX9_take cX9_take 4 none 3 := ⟨⟨q_783, q_784, q_785, q_130, q_786⟩, rfl, ⟨by decide, by decide⟩, by decide +kernel⟩
def F_X10_text (i : Nat) (X Y : Nat → Int → Int) (R : Nat → Int → Option Nat) (a : Int) (b : Int) : Prop := (∀ i j, rI (X i j)) → (∀ i j, rL (Y i j)) → rI (cPf X (i + 1) (a) (b)) → (((¬ (cPf X (i + 1) (a) (b)) = (-1)) → (((0 ≤ (a) ∧ (a) ≤ 4) ∧ (0 ≤ ((X (i + 1) 1)) ∧ ((X (i + 1) 1)) ≤ 600) ∧ ((i + 2) < (i + 139) ∨ (i + 139) + 17 < (i + 2)) ∧ (rdV X (i + 139) ∧ lnV X (i + 139)) ∧ ∀ y : Int, 0 ≤ y → y < 600 → -128 ≤ X (i + 2) y ∧ X (i + 2) y ≤ 127) ∧ (∀ X4 : Nat → Int → Int, (∀ i j, rI (X4 i j)) → ∀ R5 : Nat → Int → Option Nat, ((R5) = zU R (i + 139) 5 (some (i + 2)) ∧ (∀ z, (z < (i + 139) ∨ (i + 139) + 17 < z) → (X4) z = X z) ∧ rdV (X4) (i + 139) ∧ lnV (X4) (i + 139) ∧ roR (X4) (i + 139) (a) (rdA (X (i + 2)) ((X (i + 1) 1)).toNat (a) (((X (i + 1) 1)).toNat + 1) (s0R (a)))) → (∀ X6 : Nat → Int → Int, X6 = zU X4 (i + 1) 1 (0) → (∀ i j, rI (X6 i j)) → (∀ X7 : Nat → Int → Int, X7 = zU X6 (i + 1) 2 (X6 (i + 139) 3) → (∀ i j, rI (X7 i j)) → (∀ X8 : Nat → Int → Int, X8 = zU X7 (i + 1) 3 (X7 (i + 139) 4) → (∀ i j, rI (X8 i j)) → ((((X8 (i + 139) 3) = 0) → (((0 ≤ (a) ∧ (a) ≤ 4) ∧ (0 ≤ ((cPf X (i + 1) (a) (b))) ∧ ((cPf X (i + 1) (a) (b))) < 2) ∧ i + 34 < (i + 139)) ∧ (∀ X11 : Nat → Int → Int, (∀ i j, rI (X11 i j)) → (∃ X2, (X11) = zU X2 (i + 3) (a) (max (X8 (i + 3) (a)) (((cPf X (i + 1) (a) (b))) + 1)) ∧ tkP (a) ((cPf X (i + 1) (a) (b))) X8 X2 (i + 1) (i + 139)) → (wcK R (R5) i ∧ txC X (X11) i (a) (b) (cPf X (i + 1) (a) (b)))))) ∧ ((¬ ((X8 (i + 139) 3) = 0)) → (wcK R (R5) i ∧ txC X (X8) i (a) (b) ((-1))))))))))) ∧ ((¬ (¬ (cPf X (i + 1) (a) (b)) = (-1))) → (∀ X12 : Nat → Int → Int, X12 = zU X (i + 1) 1 (0) → (∀ i j, rI (X12 i j)) → (∀ X13 : Nat → Int → Int, X13 = zU X12 (i + 1) 2 (0) → (∀ i j, rI (X13 i j)) → (∀ X14 : Nat → Int → Int, X14 = zU X13 (i + 1) 3 ((-1)) → (∀ i j, rI (X14 i j)) → (wcK R (R) i ∧ txC X (X14) i (a) (b) ((-2))))))))
set_option maxHeartbeats 4000000 in
set_option maxRecDepth 100000 in
theorem w_X10_text {l : Launch} {D : va_G} {cy : Nat → ClassId} {bs N : Nat} {sa : Nat → Nat} {kd len : Nat → Nat} {X Y : Nat → Int → Int} {R : Nat → Int → Option Nat} {i : Nat} (hC : zWC N kd len R i) (a : Int) (ha : rI a) (b : Int) (hb : rI b) (hF : F_X10_text i X Y R a b) : Met l yX10_text (.code yX10_text cX10_text 4 (some .int) :: zTB) (zRm 8 177) (zPc D cy bs sa N kd len X Y R [.ref (bs + (i)), .int (zI (a)), .int (zI (b))]) (zQi D cy bs N kd len (fun r st => st.2.1 = Y ∧ (wcK R (st.2.2) i ∧ txC X (st.1) i (a) (b) (r)))) 0 0 (zA bs) := by
  refine zstart (by decide) (Nat.le_of_ble_eq_true rfl) ?_
  intro p e s m args below meth c ls C hE hH hr hlk hnm hl hargs
  have hF := hF hH.2.2.1 hH.2.2.2
  have hS : va_S (zA bs) s.heap s.heap [] := va_S.rf
  have hl : lv_has ls 4 [(0, .ref (bs + (i))), (1, .int (zI (a))), (2, .int (zI (b)))] := hl
  refine lv_aload_n C.1 C.2.1 dX10_text_0 rfl (lv_at hl 0 rfl) ?_
  refine zg10_0 C hH (zW_n hC) (zW_k hC) q_569 (zW_td hC).1 dX10_text_1 ?_
  refine lv_iload_n C.1 C.2.1 dX10_text_4 rfl (lv_at hl 1 rfl) ?_
  refine lv_iload_n C.1 C.2.1 dX10_text_5 rfl (lv_at hl 2 rfl) ?_
  refine zgoi (zrunV (As := [.int (zI (a)), .int (zI (b))]) (rest := []) C hE hH hS hl.1 (c_X9_placeFor (l := l) (zW_td hC).2.1 (a) ha (b) hb) k_RX10_78 ⟨Nat.le_of_ble_eq_true rfl, Nat.le_of_ble_eq_true rfl⟩ (zTold_n0 (zW_td hC).2.1) (zTold_k0 (zW_td hC).2.1) rfl rfl rfl (Nat.le_of_ble_eq_true rfl) dX10_text_6 ⟨Nat.zero_le _, Nat.zero_le _⟩) hS (fun rq Xq Yq Rq H locs hrq hq hH hS => ?_)
  obtain ⟨h91, h92⟩ := hq
  have h93 : Xq = X := congrArg (fun z => z.1) h92
  have h94 : Yq = Y := congrArg (fun z => z.2.1) h92
  have h95 : Rq = R := congrArg (fun z => z.2.2) h92
  rw [h93, h94, h95] at hH
  subst h91
  have hr1 := hrq
  have hF := hF hr1
  refine lv_istore_n (lv' := [(3, .int (zI (cPf X (i + 1) (a) (b)))), (0, .ref (bs + (i))), (1, .int (zI (a))), (2, .int (zI (b)))]) C.1 C.2.1 dX10_text_9 rfl hl (by decide) rfl (fun ls hl => ?_)
  refine lv_iload_n C.1 C.2.1 dX10_text_10 rfl (lv_at hl 0 rfl) ?_
  refine zd_iconst C dX10_text_11 ?_
  refine zd_icmp_ne C hr1 (by decide) 42 dX10_text_12 (by decide) (fun c2 => ?_) (fun c2 => ?_)
  · have hF := hF.1 c2
    refine lv_aload_n C.1 C.2.1 dX10_text_42 rfl (lv_at hl 1 rfl) ?_
    refine zg10_3 C hH (zW_n hC) (zW_k hC) q_572 (zW_rd hC).1 dX10_text_43 ?_
    refine lv_iload_n C.1 C.2.1 dX10_text_46 rfl (lv_at hl 2 rfl) ?_
    refine lv_aload_n C.1 C.2.1 dX10_text_47 rfl (lv_at hl 1 rfl) ?_
    refine zg10_0 C hH (zW_n hC) (zW_k hC) q_569 (zW_td hC).1 dX10_text_48 ?_
    refine zg9_0 C hH (zTold_n0 (zW_td hC).2.1) (zTold_k0 (zW_td hC).2.1) q_280 (zTold_r1 (zW_td hC).2.1) dX10_text_51 ?_
    refine lv_aload_n C.1 C.2.1 dX10_text_54 rfl (lv_at hl 1 rfl) ?_
    refine zg10_0 C hH (zW_n hC) (zW_k hC) q_569 (zW_td hC).1 dX10_text_55 ?_
    refine zg9_1 C hH (zTold_n0 (zW_td hC).2.1) (zTold_k0 (zW_td hC).2.1) q_281 dX10_text_58 ?_
    obtain ⟨o3, hF⟩ := hF
    refine zgov (zrunV (As := [.int (zI (a)), .ref (bs + (i + 2)), .int (zI (X (i + 1) 1))]) (rest := []) C hE hH hS hl.1 (c_X7_readAs (l := l) ⟨(zW_rd hC).2, trivial⟩ ⟨zTold_n1 (zW_td hC).2.1, zTold_k1 (zW_td hC).2.1, zTold_l1 (zW_td hC).2.1⟩ (a) ha (X (i + 1) 1) (hH.2.2.1 _ _) o3) k_RX10_92 ⟨Nat.le_of_ble_eq_true rfl, Nat.le_of_ble_eq_true rfl⟩ (zRr_n0 (zW_rd hC).2) (zRr_k0 (zW_rd hC).2) rfl rfl rfl (Nat.le_of_ble_eq_true rfl) dX10_text_61 ⟨Nat.zero_le _, Nat.zero_le _⟩) hS (fun X4 Yq R5 H locs hq hH hS => ?_)
    obtain ⟨h9Y, hq⟩ := hq
    dsimp only at h9Y
    rw [h9Y] at hH
    have hF := hF X4 hH.2.2.1 R5 hq
    have hC := zWC_tp hC hq.1
    refine lv_aload_n C.1 C.2.1 dX10_text_64 rfl (lv_at hl 1 rfl) ?_
    refine zg10_0 C hH (zW_n hC) (zW_k hC) q_569 (zW_td hC).1 dX10_text_65 ?_
    refine zd_iconst C dX10_text_68 ?_
    refine zp9_1 C hH hS (zTold_n0 (zW_td hC).2.1) (zTold_k0 (zW_td hC).2.1) q_281 (by decide) dX10_text_69 (fun H locs hH hS => ?_)
    obtain ⟨X6, eX6⟩ : ∃ z, z = zU X4 (i + 1) 1 (0) := ⟨_, rfl⟩
    rw [← eX6] at hH
    have hF := hF X6 eX6 hH.2.2.1
    refine lv_aload_n C.1 C.2.1 dX10_text_72 rfl (lv_at hl 1 rfl) ?_
    refine zg10_0 C hH (zW_n hC) (zW_k hC) q_569 (zW_td hC).1 dX10_text_73 ?_
    refine lv_aload_n C.1 C.2.1 dX10_text_76 rfl (lv_at hl 1 rfl) ?_
    refine zg10_3 C hH (zW_n hC) (zW_k hC) q_572 (zW_rd hC).1 dX10_text_77 ?_
    refine zg7_3 C hH (zRr_n0 (zW_rd hC).2) (zRr_k0 (zW_rd hC).2) q_329 dX10_text_80 ?_
    refine zp9_2 C hH hS (zTold_n0 (zW_td hC).2.1) (zTold_k0 (zW_td hC).2.1) q_284 (hH.2.2.1 _ _) dX10_text_83 (fun H locs hH hS => ?_)
    obtain ⟨X7, eX7⟩ : ∃ z, z = zU X6 (i + 1) 2 (X6 (i + 139) 3) := ⟨_, rfl⟩
    rw [← eX7] at hH
    have hF := hF X7 eX7 hH.2.2.1
    refine lv_aload_n C.1 C.2.1 dX10_text_86 rfl (lv_at hl 1 rfl) ?_
    refine zg10_0 C hH (zW_n hC) (zW_k hC) q_569 (zW_td hC).1 dX10_text_87 ?_
    refine lv_aload_n C.1 C.2.1 dX10_text_90 rfl (lv_at hl 1 rfl) ?_
    refine zg10_3 C hH (zW_n hC) (zW_k hC) q_572 (zW_rd hC).1 dX10_text_91 ?_
    refine zg7_4 C hH (zRr_n0 (zW_rd hC).2) (zRr_k0 (zW_rd hC).2) q_331 dX10_text_94 ?_
    refine zp9_3 C hH hS (zTold_n0 (zW_td hC).2.1) (zTold_k0 (zW_td hC).2.1) q_286 (hH.2.2.1 _ _) dX10_text_97 (fun H locs hH hS => ?_)
    obtain ⟨X8, eX8⟩ : ∃ z, z = zU X7 (i + 1) 3 (X7 (i + 139) 4) := ⟨_, rfl⟩
    rw [← eX8] at hH
    have hF := hF X8 eX8 hH.2.2.1
    refine lv_aload_n C.1 C.2.1 dX10_text_100 rfl (lv_at hl 1 rfl) ?_
    refine zg10_3 C hH (zW_n hC) (zW_k hC) q_572 (zW_rd hC).1 dX10_text_101 ?_
    refine zg7_3 C hH (zRr_n0 (zW_rd hC).2) (zRr_k0 (zW_rd hC).2) q_329 dX10_text_104 ?_
    refine zd_if_eq C (hH.2.2.1 _ _) 112 dX10_text_107 (by decide) (fun c9 => ?_) (fun c9 => ?_)
    · have hF := hF.1 c9
      refine lv_aload_n C.1 C.2.1 dX10_text_112 rfl (lv_at hl 1 rfl) ?_
      refine zg10_0 C hH (zW_n hC) (zW_k hC) q_569 (zW_td hC).1 dX10_text_113 ?_
      refine lv_iload_n C.1 C.2.1 dX10_text_116 rfl (lv_at hl 2 rfl) ?_
      refine lv_iload_n C.1 C.2.1 dX10_text_117 rfl (lv_at hl 0 rfl) ?_
      refine lv_aload_n C.1 C.2.1 dX10_text_118 rfl (lv_at hl 1 rfl) ?_
      refine zg10_3 C hH (zW_n hC) (zW_k hC) q_572 (zW_rd hC).1 dX10_text_119 ?_
      obtain ⟨o10, hF⟩ := hF
      refine zgov (zrunV (As := [.int (zI (a)), .int (zI (cPf X (i + 1) (a) (b))), .ref (bs + (i + 139))]) (rest := []) C hE hH hS hl.1 (c_X9_take (l := l) (zW_td hC).2 (zW_rd hC).2 (a) ha (cPf X (i + 1) (a) (b)) hr1 o10) k_RX10_98 ⟨Nat.le_of_ble_eq_true rfl, Nat.le_of_ble_eq_true rfl⟩ (zTold_n0 (zW_td hC).2.1) (zTold_k0 (zW_td hC).2.1) rfl rfl rfl (Nat.le_of_ble_eq_true rfl) dX10_text_122 ⟨Nat.zero_le _, Nat.zero_le _⟩) hS (fun X11 Yq Rq H locs hq hH hS => ?_)
      obtain ⟨h9Y, h9R, hq⟩ := hq
      dsimp only at h9Y h9R
      rw [h9Y, h9R] at hH
      have hF := hF X11 hH.2.2.1 hq
      refine lv_iload_n C.1 C.2.1 dX10_text_125 rfl (lv_at hl 0 rfl) ?_
      exact zd_iret C hr hlk hH hS hr1 (⟨rfl, hF⟩) dX10_text_126
    · have hF := hF.2 c9
      refine zd_iconst C dX10_text_110 ?_
      exact zd_iret C hr hlk hH hS (by decide) (⟨rfl, hF⟩) dX10_text_111
  · have hF := hF.2 c2
    refine lv_aload_n C.1 C.2.1 dX10_text_15 rfl (lv_at hl 1 rfl) ?_
    refine zg10_0 C hH (zW_n hC) (zW_k hC) q_569 (zW_td hC).1 dX10_text_16 ?_
    refine zd_iconst C dX10_text_19 ?_
    refine zp9_1 C hH hS (zTold_n0 (zW_td hC).2.1) (zTold_k0 (zW_td hC).2.1) q_281 (by decide) dX10_text_20 (fun H locs hH hS => ?_)
    obtain ⟨X12, eX12⟩ : ∃ z, z = zU X (i + 1) 1 (0) := ⟨_, rfl⟩
    rw [← eX12] at hH
    have hF := hF X12 eX12 hH.2.2.1
    refine lv_aload_n C.1 C.2.1 dX10_text_23 rfl (lv_at hl 1 rfl) ?_
    refine zg10_0 C hH (zW_n hC) (zW_k hC) q_569 (zW_td hC).1 dX10_text_24 ?_
    refine zd_iconst C dX10_text_27 ?_
    refine zp9_2 C hH hS (zTold_n0 (zW_td hC).2.1) (zTold_k0 (zW_td hC).2.1) q_284 (by decide) dX10_text_28 (fun H locs hH hS => ?_)
    obtain ⟨X13, eX13⟩ : ∃ z, z = zU X12 (i + 1) 2 (0) := ⟨_, rfl⟩
    rw [← eX13] at hH
    have hF := hF X13 eX13 hH.2.2.1
    refine lv_aload_n C.1 C.2.1 dX10_text_31 rfl (lv_at hl 1 rfl) ?_
    refine zg10_0 C hH (zW_n hC) (zW_k hC) q_569 (zW_td hC).1 dX10_text_32 ?_
    refine zd_iconst C dX10_text_35 ?_
    refine zp9_3 C hH hS (zTold_n0 (zW_td hC).2.1) (zTold_k0 (zW_td hC).2.1) q_286 (by decide) dX10_text_36 (fun H locs hH hS => ?_)
    obtain ⟨X14, eX14⟩ : ∃ z, z = zU X13 (i + 1) 3 ((-1)) := ⟨_, rfl⟩
    rw [← eX14] at hH
    have hF := hF X14 eX14 hH.2.2.1
    refine zd_bipush C (by decide) dX10_text_39 ?_
    exact zd_iret C hr hlk hH hS (by decide) (⟨rfl, hF⟩) dX10_text_41
theorem cPf_b {X : Nat → Int → Int} {i : Nat} {a b : Int} (h : ¬ cPf X (i + 1) a b = -1) (hc : ∀ y : Int, 0 ≤ y → y < 5 → 0 ≤ X (i + 3) y ∧ X (i + 3) y ≤ 2) : (0 ≤ a ∧ a ≤ 4) ∧ 0 ≤ cPf X (i + 1) a b ∧ cPf X (i + 1) a b < 2 := by
  unfold cPf at h ⊢
  by_cases ha : 0 ≤ a ∧ a < 5
  · have g := hc a ha.1 ha.2
    rw [if_pos ha] at h ⊢
    refine ⟨by omega, ?_⟩
    by_cases hb : b = -1
    · rw [if_pos hb] at h ⊢
      by_cases h2 : X (i + 1 + 2) a < 2
      · rw [if_pos h2]
        have g : 0 ≤ X (i + 1 + 2) a := g.1
        omega
      · rw [if_neg h2] at h
        exact absurd rfl h
    · rw [if_neg hb] at h ⊢
      by_cases h2 : (0 ≤ b ∧ b < 2) ∧ b < X (i + 1 + 2) a
      · rw [if_pos h2]
        exact h2.1
      · rw [if_neg h2] at h
        exact absurd rfl h
  · rw [if_neg ha] at h
    exact absurd rfl h
theorem v_X10_text {X Y : Nat → Int → Int} {R : Nat → Int → Option Nat} {i : Nat} (a : Int) (ha : rI a) (b : Int) (hb : rI b) (hp : (rdV X (i + 139) ∧ lnV X (i + 139)) ∧ (0 ≤ X (i + 1) 1 ∧ X (i + 1) 1 ≤ 600) ∧ (∀ y : Int, 0 ≤ y → y < 5 → 0 ≤ X (i + 3) y ∧ X (i + 3) y ≤ 2) ∧ ∀ y : Int, 0 ≤ y → y < 600 → -128 ≤ X (i + 2) y ∧ X (i + 2) y ≤ 127) : F_X10_text i X Y R a b := by
  unfold F_X10_text
  intro hX hY
  obtain ⟨⟨hv, hl⟩, hn, hc, ht⟩ := hp
  intro _
  refine ⟨?_, ?_⟩
  · intro c1
    obtain ⟨ba, b0, b1⟩ := cPf_b c1 hc
    refine ⟨?_, ?_⟩
    · exact ⟨ba, hn, Or.inl (by omega), ⟨hv, hl⟩, ht⟩
    intro X4
    intro rX4
    intro R5
    intro h1
    intro X6
    intro eX6
    intro rX6
    intro X7
    intro eX7
    intro rX7
    intro X8
    intro eX8
    have e8 : X8 = zU (zU (zU X4 (i + 1) 1 0) (i + 1) 2 (X4 (i + 139) 3)) (i + 1) 3 (X4 (i + 139) 4) := by
      have a3 : X6 (i + 139) 3 = X4 (i + 139) 3 := by rw [eX6, zU_o (by omega)]
      have a4 : X7 (i + 139) 4 = X4 (i + 139) 4 := by rw [eX7, zU_o (by omega), eX6, zU_o (by omega)]
      rw [eX8, a4, eX7, a3, eX6]
    have e3 : X8 (i + 139) 3 = X4 (i + 139) 3 := by rw [e8, zU_o (by omega), zU_o (by omega), zU_o (by omega)]
    rw [e3]
    intro rX8
    refine ⟨?_, ?_⟩
    · intro c2
      refine ⟨?_, ?_⟩
      · exact ⟨ba, ⟨b0, b1⟩, by omega⟩
      intro X11
      intro rX11
      intro h2
      obtain ⟨X2, e11, tk⟩ := h2
      exact ⟨⟨fun N kd len h => zWC_tp h h1.1, fun z hz => by rw [h1.1, zU_o (by omega)]⟩, fun g => absurd g c1, fun _ => ⟨X4, X8, h1.2.1, h1.2.2.1, h1.2.2.2.1, h1.2.2.2.2, e8, fun g => absurd c2 g, fun _ => ⟨rfl, X2, e11, tk⟩⟩⟩
    intro c3
    exact ⟨⟨fun N kd len h => zWC_tp h h1.1, fun z hz => by rw [h1.1, zU_o (by omega)]⟩, fun g => absurd g c1, fun _ => ⟨X4, X8, h1.2.1, h1.2.2.1, h1.2.2.2.1, h1.2.2.2.2, e8, fun _ => ⟨rfl, rfl⟩, fun g => absurd g c3⟩⟩
  intro c4
  intro X12
  intro eX12
  intro rX12
  intro X13
  intro eX13
  intro rX13
  intro X14
  intro eX14
  intro rX14
  exact ⟨wcK.rf, fun _ => ⟨rfl, by rw [eX14, eX13, eX12]⟩, fun g => absurd (Classical.not_not.mp c4) g⟩
theorem c_X10_text {l : Launch} {D : va_G} {cy : Nat → ClassId} {bs N : Nat} {sa : Nat → Nat} {kd len : Nat → Nat} {X Y : Nat → Int → Int} {R : Nat → Int → Option Nat} {i : Nat} (hC : zWC N kd len R i) (a : Int) (ha : rI a) (b : Int) (hb : rI b) (hp : (rdV X (i + 139) ∧ lnV X (i + 139)) ∧ (0 ≤ X (i + 1) 1 ∧ X (i + 1) 1 ≤ 600) ∧ (∀ y : Int, 0 ≤ y → y < 5 → 0 ≤ X (i + 3) y ∧ X (i + 3) y ≤ 2) ∧ ∀ y : Int, 0 ≤ y → y < 600 → -128 ≤ X (i + 2) y ∧ X (i + 2) y ≤ 127) : Met l yX10_text (.code yX10_text cX10_text 4 (some .int) :: zTB) (zRm 8 177) (zPc D cy bs sa N kd len X Y R [.ref (bs + (i)), .int (zI (a)), .int (zI (b))]) (zQi D cy bs N kd len (fun r st => st.2.1 = Y ∧ (wcK R (st.2.2) i ∧ txC X (st.1) i (a) (b) (r)))) 0 0 (zA bs) := w_X10_text hC a ha b hb (v_X10_text a ha b hb hp)
