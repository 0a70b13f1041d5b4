/-! A BLOCK -/
def bkOf (Z : Nat → Int → Int) (i : Nat) (k w : Int) : Int := if mIn w 0 3 then (if w = 1 then mTim Z i k else if k = 0 then -1 else mC Z i k w) else if 10 ≤ w ∧ w.tmod 10 < 3 ∧ 0 < k ∧ w.tdiv 10 - 1 < mC Z i k 3 then mC Z i k (4 + 3 * (w.tdiv 10 - 1) + w.tmod 10) else -2
def rBlock (X : Nat → Int → Int) (i : Nat) (c k w : Int) : Int := if mIs i X 1 c then (if k = -1 then (if w = 0 then qN X i c else -2) else if mIn k 0 (qN X i c) then bkOf (hZ X i 0 c 0) i k w else -2) else -2
abbrev cX11_block : ByteArray := prog_13_method_53_code
def yX11_block : MethodName := ⟨RX11, "block", "(III)I"⟩
theorem dX11_block_0 : decode cX11_block 0 = .ok (.aload_n 0, 1) := by decide +kernel
theorem dX11_block_1 : decode cX11_block 1 = .ok (.iconst 0, 1) := by decide +kernel
theorem dX11_block_2 : decode cX11_block 2 = .ok (.putfield 88, 3) := by decide +kernel
theorem dX11_block_5 : decode cX11_block 5 = .ok (.aload_n 0, 1) := by decide +kernel
theorem dX11_block_6 : decode cX11_block 6 = .ok (.iload_n 1, 1) := by decide +kernel
theorem dX11_block_7 : decode cX11_block 7 = .ok (.invokevirtual 301, 3) := by decide +kernel
theorem dX11_block_10 : decode cX11_block 10 = .ok (.ifCond .ne 6, 3) := by decide +kernel
theorem dX11_block_13 : decode cX11_block 13 = .ok (.bipush (-2), 2) := by decide +kernel
theorem dX11_block_15 : decode cX11_block 15 = .ok (.ireturn, 1) := by decide +kernel
theorem dX11_block_16 : decode cX11_block 16 = .ok (.iload_n 2, 1) := by decide +kernel
theorem dX11_block_17 : decode cX11_block 17 = .ok (.iconst (-1), 1) := by decide +kernel
theorem dX11_block_18 : decode cX11_block 18 = .ok (.if_icmp .ne 19, 3) := by decide +kernel
theorem dX11_block_21 : decode cX11_block 21 = .ok (.iload_n 3, 1) := by decide +kernel
theorem dX11_block_22 : decode cX11_block 22 = .ok (.ifCond .ne 12, 3) := by decide +kernel
theorem dX11_block_25 : decode cX11_block 25 = .ok (.aload_n 0, 1) := by decide +kernel
theorem dX11_block_26 : decode cX11_block 26 = .ok (.getfield 255, 3) := by decide +kernel
theorem dX11_block_29 : decode cX11_block 29 = .ok (.iconst 1, 1) := by decide +kernel
theorem dX11_block_30 : decode cX11_block 30 = .ok (.isub, 1) := by decide +kernel
theorem dX11_block_31 : decode cX11_block 31 = .ok (.goto 5, 3) := by decide +kernel
theorem dX11_block_34 : decode cX11_block 34 = .ok (.bipush (-2), 2) := by decide +kernel
theorem dX11_block_36 : decode cX11_block 36 = .ok (.ireturn, 1) := by decide +kernel
theorem dX11_block_37 : decode cX11_block 37 = .ok (.aload_n 0, 1) := by decide +kernel
theorem dX11_block_38 : decode cX11_block 38 = .ok (.iload_n 2, 1) := by decide +kernel
theorem dX11_block_39 : decode cX11_block 39 = .ok (.invokevirtual 319, 3) := by decide +kernel
theorem dX11_block_42 : decode cX11_block 42 = .ok (.ifCond .ne 6, 3) := by decide +kernel
theorem dX11_block_45 : decode cX11_block 45 = .ok (.bipush (-2), 2) := by decide +kernel
theorem dX11_block_47 : decode cX11_block 47 = .ok (.ireturn, 1) := by decide +kernel
theorem dX11_block_48 : decode cX11_block 48 = .ok (.iload_n 3, 1) := by decide +kernel
theorem dX11_block_49 : decode cX11_block 49 = .ok (.iconst 0, 1) := by decide +kernel
theorem dX11_block_50 : decode cX11_block 50 = .ok (.iconst 3, 1) := by decide +kernel
theorem dX11_block_51 : decode cX11_block 51 = .ok (.invokestatic 100, 3) := by decide +kernel
theorem dX11_block_54 : decode cX11_block 54 = .ok (.ifCond .eq 31, 3) := by decide +kernel
theorem dX11_block_57 : decode cX11_block 57 = .ok (.iload_n 3, 1) := by decide +kernel
theorem dX11_block_58 : decode cX11_block 58 = .ok (.iconst 1, 1) := by decide +kernel
theorem dX11_block_59 : decode cX11_block 59 = .ok (.if_icmp .ne 11, 3) := by decide +kernel
theorem dX11_block_62 : decode cX11_block 62 = .ok (.aload_n 0, 1) := by decide +kernel
theorem dX11_block_63 : decode cX11_block 63 = .ok (.iload_n 2, 1) := by decide +kernel
theorem dX11_block_64 : decode cX11_block 64 = .ok (.invokevirtual 271, 3) := by decide +kernel
theorem dX11_block_67 : decode cX11_block 67 = .ok (.goto 17, 3) := by decide +kernel
theorem dX11_block_70 : decode cX11_block 70 = .ok (.iload_n 2, 1) := by decide +kernel
theorem dX11_block_71 : decode cX11_block 71 = .ok (.ifCond .ne 7, 3) := by decide +kernel
theorem dX11_block_74 : decode cX11_block 74 = .ok (.iconst (-1), 1) := by decide +kernel
theorem dX11_block_75 : decode cX11_block 75 = .ok (.goto 9, 3) := by decide +kernel
theorem dX11_block_78 : decode cX11_block 78 = .ok (.aload_n 0, 1) := by decide +kernel
theorem dX11_block_79 : decode cX11_block 79 = .ok (.iload_n 2, 1) := by decide +kernel
theorem dX11_block_80 : decode cX11_block 80 = .ok (.iload_n 3, 1) := by decide +kernel
theorem dX11_block_81 : decode cX11_block 81 = .ok (.invokevirtual 258, 3) := by decide +kernel
theorem dX11_block_84 : decode cX11_block 84 = .ok (.ireturn, 1) := by decide +kernel
theorem dX11_block_85 : decode cX11_block 85 = .ok (.iload_n 3, 1) := by decide +kernel
theorem dX11_block_86 : decode cX11_block 86 = .ok (.bipush 10, 2) := by decide +kernel
theorem dX11_block_88 : decode cX11_block 88 = .ok (.idiv, 1) := by decide +kernel
theorem dX11_block_89 : decode cX11_block 89 = .ok (.iconst 1, 1) := by decide +kernel
theorem dX11_block_90 : decode cX11_block 90 = .ok (.isub, 1) := by decide +kernel
theorem dX11_block_91 : decode cX11_block 91 = .ok (.istore 4, 2) := by decide +kernel
theorem dX11_block_93 : decode cX11_block 93 = .ok (.iload_n 3, 1) := by decide +kernel
theorem dX11_block_94 : decode cX11_block 94 = .ok (.bipush 10, 2) := by decide +kernel
theorem dX11_block_96 : decode cX11_block 96 = .ok (.irem, 1) := by decide +kernel
theorem dX11_block_97 : decode cX11_block 97 = .ok (.istore 5, 2) := by decide +kernel
theorem dX11_block_99 : decode cX11_block 99 = .ok (.iload_n 3, 1) := by decide +kernel
theorem dX11_block_100 : decode cX11_block 100 = .ok (.bipush 10, 2) := by decide +kernel
theorem dX11_block_102 : decode cX11_block 102 = .ok (.if_icmp .lt 41, 3) := by decide +kernel
theorem dX11_block_105 : decode cX11_block 105 = .ok (.iload 5, 2) := by decide +kernel
theorem dX11_block_107 : decode cX11_block 107 = .ok (.iconst 3, 1) := by decide +kernel
theorem dX11_block_108 : decode cX11_block 108 = .ok (.if_icmp .ge 35, 3) := by decide +kernel
theorem dX11_block_111 : decode cX11_block 111 = .ok (.iload_n 2, 1) := by decide +kernel
theorem dX11_block_112 : decode cX11_block 112 = .ok (.ifCond .le 31, 3) := by decide +kernel
theorem dX11_block_115 : decode cX11_block 115 = .ok (.iload 4, 2) := by decide +kernel
theorem dX11_block_117 : decode cX11_block 117 = .ok (.aload_n 0, 1) := by decide +kernel
theorem dX11_block_118 : decode cX11_block 118 = .ok (.iload_n 2, 1) := by decide +kernel
theorem dX11_block_119 : decode cX11_block 119 = .ok (.iconst 3, 1) := by decide +kernel
theorem dX11_block_120 : decode cX11_block 120 = .ok (.invokevirtual 258, 3) := by decide +kernel
theorem dX11_block_123 : decode cX11_block 123 = .ok (.if_icmp .ge 20, 3) := by decide +kernel
theorem dX11_block_126 : decode cX11_block 126 = .ok (.aload_n 0, 1) := by decide +kernel
theorem dX11_block_127 : decode cX11_block 127 = .ok (.iload_n 2, 1) := by decide +kernel
theorem dX11_block_128 : decode cX11_block 128 = .ok (.iconst 4, 1) := by decide +kernel
theorem dX11_block_129 : decode cX11_block 129 = .ok (.iconst 3, 1) := by decide +kernel
theorem dX11_block_130 : decode cX11_block 130 = .ok (.iload 4, 2) := by decide +kernel
theorem dX11_block_132 : decode cX11_block 132 = .ok (.imul, 1) := by decide +kernel
theorem dX11_block_133 : decode cX11_block 133 = .ok (.iadd, 1) := by decide +kernel
theorem dX11_block_134 : decode cX11_block 134 = .ok (.iload 5, 2) := by decide +kernel
theorem dX11_block_136 : decode cX11_block 136 = .ok (.iadd, 1) := by decide +kernel
theorem dX11_block_137 : decode cX11_block 137 = .ok (.invokevirtual 258, 3) := by decide +kernel
theorem dX11_block_140 : decode cX11_block 140 = .ok (.goto 5, 3) := by decide +kernel
theorem dX11_block_143 : decode cX11_block 143 = .ok (.bipush (-2), 2) := by decide +kernel
theorem dX11_block_145 : decode cX11_block 145 = .ok (.ireturn, 1) := by decide +kernel
def F_X11_block (i : Nat) (X Y : Nat → Int → Int) (R : Nat → Int → Option Nat) (a : Int) (b : Int) (g : Int) : Prop := (∀ i j, rI (X i j)) → (∀ i j, rL (Y i j)) → ∀ X1 : Nat → Int → Int, X1 = zU X (i) 0 (0) → (∀ i j, rI (X1 i j)) → ((oTN X1 i) ∧ (∀ r4 : Bool, ∀ X3 : Nat → Int → Int, (∀ i j, rI (X3 i j)) → (r4 = mIs i X1 1 (a) ∧ X3 = if r4 then zU (zU X1 i 25 (a)) i 27 (1 + X1 (i + 7) (183 * (a))) else zU X1 i 25 (a)) → (((r4 = true) → (((¬ b = (-1)) → ((0 ≤ X3 i 27) ∧ ((((mIn (b) 0 (X3 i 27 - 1)) = true) → ((((mIn (g) ((0 : Int)) ((3 : Int))) = false) → (((g < 10) → ((-2) = rBlock X i (a) (b) (g) ∧ pK X (X3) i)) ∧ ((¬ (g < 10)) → (((3 ≤ ((g).tmod (10))) → ((-2) = rBlock X i (a) (b) (g) ∧ pK X (X3) i)) ∧ ((¬ (3 ≤ ((g).tmod (10)))) → (((b ≤ 0) → ((-2) = rBlock X i (a) (b) (g) ∧ pK X (X3) i)) ∧ ((¬ (b ≤ 0)) → ((oC X3 i ∧ 1 ≤ b ∧ b ≤ 14 ∧ 0 ≤ (3 : Int) ∧ (3 : Int) ≤ 12) ∧ (rI (mC X3 i (b) ((3 : Int))) → ((rI (((g).tdiv (10)) - 1)) ∧ ((((mC X3 i (b) ((3 : Int))) ≤ (((g).tdiv (10)) - 1)) → ((-2) = rBlock X i (a) (b) (g) ∧ pK X (X3) i)) ∧ ((¬ ((mC X3 i (b) ((3 : Int))) ≤ (((g).tdiv (10)) - 1))) → ((rI ((4 + (3 * (((g).tdiv (10)) - 1))) + ((g).tmod (10)))) ∧ ((oC X3 i ∧ 1 ≤ b ∧ b ≤ 14 ∧ 0 ≤ (4 + (3 * (((g).tdiv (10)) - 1))) + ((g).tmod (10)) ∧ (4 + (3 * (((g).tdiv (10)) - 1))) + ((g).tmod (10)) ≤ 12) ∧ (rI (mC X3 i (b) ((4 + (3 * (((g).tdiv (10)) - 1))) + ((g).tmod (10)))) → (mC X3 i (b) ((4 + (3 * (((g).tdiv (10)) - 1))) + ((g).tmod (10))) = rBlock X i (a) (b) (g) ∧ pK X (X3) i)))))))))))))))) ∧ (((mIn (g) ((0 : Int)) ((3 : Int))) = true) → (((¬ g = 1) → (((¬ b = 0) → ((oC X3 i ∧ 1 ≤ b ∧ b ≤ 14 ∧ 0 ≤ g ∧ g ≤ 12) ∧ (rI (mC X3 i (b) (g)) → (mC X3 i (b) (g) = rBlock X i (a) (b) (g) ∧ pK X (X3) i)))) ∧ ((¬ (¬ b = 0)) → ((-1) = rBlock X i (a) (b) (g) ∧ pK X (X3) i)))) ∧ ((¬ (¬ g = 1)) → ((oC X3 i ∧ 0 ≤ b ∧ b ≤ 14) ∧ (rI (mTim X3 i (b)) → (mTim X3 i (b) = rBlock X i (a) (b) (g) ∧ pK X (X3) i)))))))) ∧ (((mIn (b) 0 (X3 i 27 - 1)) = false) → ((-2) = rBlock X i (a) (b) (g) ∧ pK X (X3) i))))) ∧ ((¬ (¬ b = (-1))) → (((¬ g = 0) → ((-2) = rBlock X i (a) (b) (g) ∧ pK X (X3) i)) ∧ ((¬ (¬ g = 0)) → ((rI ((X3 (i) 27) - 1)) ∧ ((X3 (i) 27) - 1 = rBlock X i (a) (b) (g) ∧ pK X (X3) i))))))) ∧ ((r4 = false) → ((-2) = rBlock X i (a) (b) (g) ∧ pK X (X3) i)))))
set_option maxHeartbeats 4000000 in
set_option maxRecDepth 100000 in
theorem w_X11_block {l : Launch} {D : va_G} {cy : Nat → ClassId} {bs N : Nat} {sa : Nat → Nat} {kd len : Nat → Nat} {X Y : Nat → Int → Int} {R : Nat → Int → Option Nat} {i : Nat} (hM : zM N kd len R i) (a : Int) (ha : rI a) (b : Int) (hb : rI b) (g : Int) (hg : rI g) (hF : F_X11_block i X Y R a b g) : Met l yX11_block (.code yX11_block cX11_block 6 (some .int) :: zTB) (zRm 3 65) (zPc D cy bs sa N kd len X Y R [.ref (bs + (i)), .int (zI (a)), .int (zI (b)), .int (zI (g))]) (zQi D cy bs N kd len (fun r st => st.2.1 = Y ∧ st.2.2 = R ∧ (r = rBlock X i (a) (b) (g) ∧ pK X (st.1) i))) 0 0 (zA bs) := by
  refine zstart (by decide) (Nat.le_of_ble_eq_true rfl) ?_
  intro p e s m args below meth c ls C hE hH hr hlk hnm hl hargs
  have hF := hF hH.2.2.1 hH.2.2.2
  have hS : va_S (zA bs) s.heap s.heap [] := va_S.rf
  have hl : lv_has ls 6 [(0, .ref (bs + (i))), (1, .int (zI (a))), (2, .int (zI (b))), (3, .int (zI (g)))] := hl
  refine lv_aload_n C.1 C.2.1 dX11_block_0 rfl (lv_at hl 0 rfl) ?_
  refine zd_iconst C dX11_block_1 ?_
  refine zp11_0 C hH hS (zM_n0 hM) (zM_k0 hM) q_1287 (by decide) dX11_block_2 (fun H locs hH hS => ?_)
  obtain ⟨X1, eX1⟩ : ∃ z, z = zU X (i) 0 (0) := ⟨_, rfl⟩
  rw [← eX1] at hH
  have hF := hF X1 eX1 hH.2.2.1
  refine lv_aload_n C.1 C.2.1 dX11_block_5 rfl (lv_at hl 0 rfl) ?_
  refine lv_iload_n C.1 C.2.1 dX11_block_6 rfl (lv_at hl 1 rfl) ?_
  obtain ⟨o2, hF⟩ := hF
  refine zgoi (zrunV (As := [.int (zI (a))]) (rest := []) C hE hH hS hl.1 (c_X11_hasChain (l := l) hM (a) ha o2) k_RX11_301 ⟨Nat.le_of_ble_eq_true rfl, Nat.le_of_ble_eq_true rfl⟩ (zM_n0 hM) (zM_k0 hM) rfl rfl rfl (Nat.le_of_ble_eq_true rfl) dX11_block_7 ⟨Nat.zero_le _, Nat.zero_le _⟩) hS (fun rq X3 Yq Rq H locs hrq hq hH hS => ?_)
  obtain ⟨h9Y, h9R, hq⟩ := hq
  dsimp only at h9Y h9R
  rw [h9Y, h9R] at hH
  obtain ⟨r4, h91, hq⟩ := hq
  subst h91
  have hF := hF r4 X3 hH.2.2.1 hq
  refine zd_ifB_ne C 16 dX11_block_10 (by decide) (fun c5 => ?_) (fun c5 => ?_)
  · have hF := hF.1 c5
    refine lv_iload_n C.1 C.2.1 dX11_block_16 rfl (lv_at hl 2 rfl) ?_
    refine zd_iconst C dX11_block_17 ?_
    refine zd_icmp_ne C hb (by decide) 37 dX11_block_18 (by decide) (fun c6 => ?_) (fun c6 => ?_)
    · have hF := hF.1 c6
      refine lv_aload_n C.1 C.2.1 dX11_block_37 rfl (lv_at hl 0 rfl) ?_
      refine lv_iload_n C.1 C.2.1 dX11_block_38 rfl (lv_at hl 2 rfl) ?_
      obtain ⟨o7, hF⟩ := hF
      refine zgoi (zrunV (As := [.int (zI (b))]) (rest := []) C hE hH hS hl.1 (c_X11_isBlock (l := l) hM (b) hb o7) k_RX11_319 ⟨Nat.le_of_ble_eq_true rfl, Nat.le_of_ble_eq_true rfl⟩ (zM_n0 hM) (zM_k0 hM) rfl rfl rfl (Nat.le_of_ble_eq_true rfl) dX11_block_39 ⟨Nat.zero_le _, Nat.zero_le _⟩) hS (fun rq Xq Yq Rq H locs hrq hq hH hS => ?_)
      obtain ⟨h91, h92⟩ := hq
      have h93 : Xq = X3 := congrArg (fun z => z.1) h92
      have h94 : Yq = Y := congrArg (fun z => z.2.1) h92
      have h95 : Rq = R := congrArg (fun z => z.2.2) h92
      rw [h93, h94, h95] at hH
      subst h91
      refine zd_ifB_ne C 48 dX11_block_42 (by decide) (fun c8 => ?_) (fun c8 => ?_)
      · have hF := hF.1 c8
        refine lv_iload_n C.1 C.2.1 dX11_block_48 rfl (lv_at hl 3 rfl) ?_
        refine zd_iconst C dX11_block_49 ?_
        refine zd_iconst C dX11_block_50 ?_
        refine zgoi (zrunS (As := [.int (zI (g)), .int (zI (0)), .int (zI (3))]) (rest := []) C hE hH hS hl.1 (c_X11_in (l := l)  (g) hg (0) (by decide) (3) (by decide)) k_RX11_100 ⟨Nat.le_of_ble_eq_true rfl, Nat.le_of_ble_eq_true rfl⟩ rfl (Nat.le_of_ble_eq_true rfl) dX11_block_51 ⟨Nat.zero_le _, Nat.zero_le _⟩) hS (fun rq Xq Yq Rq H locs hrq hq hH hS => ?_)
        obtain ⟨h91, h92⟩ := hq
        have h93 : Xq = X3 := congrArg (fun z => z.1) h92
        have h94 : Yq = Y := congrArg (fun z => z.2.1) h92
        have h95 : Rq = R := congrArg (fun z => z.2.2) h92
        rw [h93, h94, h95] at hH
        subst h91
        refine zd_ifB_eq C 85 dX11_block_54 (by decide) (fun c9 => ?_) (fun c9 => ?_)
        · have hF := hF.1 c9
          refine lv_iload_n C.1 C.2.1 dX11_block_85 rfl (lv_at hl 3 rfl) ?_
          refine zd_bipush C (by decide) dX11_block_86 ?_
          refine zd_idiv C hg (by decide) (by decide) (by decide) dX11_block_88 ?_
          refine zd_iconst C dX11_block_89 ?_
          refine zd_isub C dX11_block_90 ?_
          refine lv_istore (lv' := [(4, .int (zI (((g).tdiv (10)) - 1))), (0, .ref (bs + (i))), (1, .int (zI (a))), (2, .int (zI (b))), (3, .int (zI (g)))]) C.1 C.2.1 dX11_block_91 hl (by decide) rfl (fun ls hl => ?_)
          refine lv_iload_n C.1 C.2.1 dX11_block_93 rfl (lv_at hl 4 rfl) ?_
          refine zd_bipush C (by decide) dX11_block_94 ?_
          refine zd_irem C hg (by decide) (by decide) (by decide) dX11_block_96 ?_
          refine lv_istore (lv' := [(5, .int (zI ((g).tmod (10)))), (4, .int (zI (((g).tdiv (10)) - 1))), (0, .ref (bs + (i))), (1, .int (zI (a))), (2, .int (zI (b))), (3, .int (zI (g)))]) C.1 C.2.1 dX11_block_97 hl (by decide) rfl (fun ls hl => ?_)
          refine lv_iload_n C.1 C.2.1 dX11_block_99 rfl (lv_at hl 5 rfl) ?_
          refine zd_bipush C (by decide) dX11_block_100 ?_
          refine zd_icmp_lt C hg (by decide) 143 dX11_block_102 (by decide) (fun c10 => ?_) (fun c10 => ?_)
          · have hF := hF.1 c10
            refine zd_bipush C (by decide) dX11_block_143 ?_
            exact zd_iret C hr hlk hH hS (by decide) (⟨rfl, rfl, hF⟩) dX11_block_145
          · have hF := hF.2 c10
            refine lv_iload C.1 C.2.1 dX11_block_105 (lv_at hl 0 rfl) ?_
            refine zd_iconst C dX11_block_107 ?_
            refine zd_icmp_ge C (tmod_rI hg (show (10 : Int) ≠ -1 from (by decide))) (by decide) 143 dX11_block_108 (by decide) (fun c11 => ?_) (fun c11 => ?_)
            · have hF := hF.1 c11
              refine zd_bipush C (by decide) dX11_block_143 ?_
              exact zd_iret C hr hlk hH hS (by decide) (⟨rfl, rfl, hF⟩) dX11_block_145
            · have hF := hF.2 c11
              refine lv_iload_n C.1 C.2.1 dX11_block_111 rfl (lv_at hl 4 rfl) ?_
              refine zd_if_le C hb 143 dX11_block_112 (by decide) (fun c12 => ?_) (fun c12 => ?_)
              · have hF := hF.1 c12
                refine zd_bipush C (by decide) dX11_block_143 ?_
                exact zd_iret C hr hlk hH hS (by decide) (⟨rfl, rfl, hF⟩) dX11_block_145
              · have hF := hF.2 c12
                refine lv_iload C.1 C.2.1 dX11_block_115 (lv_at hl 1 rfl) ?_
                refine lv_aload_n C.1 C.2.1 dX11_block_117 rfl (lv_at hl 2 rfl) ?_
                refine lv_iload_n C.1 C.2.1 dX11_block_118 rfl (lv_at hl 4 rfl) ?_
                refine zd_iconst C dX11_block_119 ?_
                obtain ⟨o13, hF⟩ := hF
                refine zgoi (zrunV (As := [.int (zI (b)), .int (zI (3))]) (rest := [.int (zI (((g).tdiv (10)) - 1))]) C hE hH hS hl.1 (c_X11_ofBlock (l := l) hM (b) hb (3) (by decide) o13) k_RX11_258 ⟨Nat.le_of_ble_eq_true rfl, Nat.le_of_ble_eq_true rfl⟩ (zM_n0 hM) (zM_k0 hM) rfl rfl rfl (Nat.le_of_ble_eq_true rfl) dX11_block_120 ⟨Nat.zero_le _, Nat.zero_le _⟩) hS (fun rq Xq Yq Rq H locs hrq hq hH hS => ?_)
                obtain ⟨h91, h92⟩ := hq
                have h93 : Xq = X3 := congrArg (fun z => z.1) h92
                have h94 : Yq = Y := congrArg (fun z => z.2.1) h92
                have h95 : Rq = R := congrArg (fun z => z.2.2) h92
                rw [h93, h94, h95] at hH
                subst h91
                have hr14 := hrq
                have hF := hF hr14
                obtain ⟨o16, hF⟩ := hF
                refine zd_icmp_ge C o16 hr14 143 dX11_block_123 (by decide) (fun c15 => ?_) (fun c15 => ?_)
                · have hF := hF.1 c15
                  refine zd_bipush C (by decide) dX11_block_143 ?_
                  exact zd_iret C hr hlk hH hS (by decide) (⟨rfl, rfl, hF⟩) dX11_block_145
                · have hF := hF.2 c15
                  refine lv_aload_n C.1 C.2.1 dX11_block_126 rfl (lv_at hl 2 rfl) ?_
                  refine lv_iload_n C.1 C.2.1 dX11_block_127 rfl (lv_at hl 4 rfl) ?_
                  refine zd_iconst C dX11_block_128 ?_
                  refine zd_iconst C dX11_block_129 ?_
                  refine lv_iload C.1 C.2.1 dX11_block_130 (lv_at hl 1 rfl) ?_
                  refine zd_imul C dX11_block_132 ?_
                  refine zd_iadd C dX11_block_133 ?_
                  refine lv_iload C.1 C.2.1 dX11_block_134 (lv_at hl 0 rfl) ?_
                  refine zd_iadd C dX11_block_136 ?_
                  obtain ⟨o17, hF⟩ := hF
                  obtain ⟨o18, hF⟩ := hF
                  refine zgoi (zrunV (As := [.int (zI (b)), .int (zI ((4 + (3 * (((g).tdiv (10)) - 1))) + ((g).tmod (10))))]) (rest := []) C hE hH hS hl.1 (c_X11_ofBlock (l := l) hM (b) hb ((4 + (3 * (((g).tdiv (10)) - 1))) + ((g).tmod (10))) o17 o18) k_RX11_258 ⟨Nat.le_of_ble_eq_true rfl, Nat.le_of_ble_eq_true rfl⟩ (zM_n0 hM) (zM_k0 hM) rfl rfl rfl (Nat.le_of_ble_eq_true rfl) dX11_block_137 ⟨Nat.zero_le _, Nat.zero_le _⟩) hS (fun rq Xq Yq Rq H locs hrq hq hH hS => ?_)
                  obtain ⟨h91, h92⟩ := hq
                  have h93 : Xq = X3 := congrArg (fun z => z.1) h92
                  have h94 : Yq = Y := congrArg (fun z => z.2.1) h92
                  have h95 : Rq = R := congrArg (fun z => z.2.2) h92
                  rw [h93, h94, h95] at hH
                  subst h91
                  have hr19 := hrq
                  have hF := hF hr19
                  refine lv_goto (tgt := 145) C.1 C.2.1 dX11_block_140 (by decide) ?_
                  exact zd_iret C hr hlk hH hS hr19 (⟨rfl, rfl, hF⟩) dX11_block_145
        · have hF := hF.2 c9
          refine lv_iload_n C.1 C.2.1 dX11_block_57 rfl (lv_at hl 3 rfl) ?_
          refine zd_iconst C dX11_block_58 ?_
          refine zd_icmp_ne C hg (by decide) 70 dX11_block_59 (by decide) (fun c20 => ?_) (fun c20 => ?_)
          · have hF := hF.1 c20
            refine lv_iload_n C.1 C.2.1 dX11_block_70 rfl (lv_at hl 2 rfl) ?_
            refine zd_if_ne C hb 78 dX11_block_71 (by decide) (fun c21 => ?_) (fun c21 => ?_)
            · have hF := hF.1 c21
              refine lv_aload_n C.1 C.2.1 dX11_block_78 rfl (lv_at hl 0 rfl) ?_
              refine lv_iload_n C.1 C.2.1 dX11_block_79 rfl (lv_at hl 2 rfl) ?_
              refine lv_iload_n C.1 C.2.1 dX11_block_80 rfl (lv_at hl 3 rfl) ?_
              obtain ⟨o22, hF⟩ := hF
              refine zgoi (zrunV (As := [.int (zI (b)), .int (zI (g))]) (rest := []) C hE hH hS hl.1 (c_X11_ofBlock (l := l) hM (b) hb (g) hg o22) k_RX11_258 ⟨Nat.le_of_ble_eq_true rfl, Nat.le_of_ble_eq_true rfl⟩ (zM_n0 hM) (zM_k0 hM) rfl rfl rfl (Nat.le_of_ble_eq_true rfl) dX11_block_81 ⟨Nat.zero_le _, Nat.zero_le _⟩) hS (fun rq Xq Yq Rq H locs hrq hq hH hS => ?_)
              obtain ⟨h91, h92⟩ := hq
              have h93 : Xq = X3 := congrArg (fun z => z.1) h92
              have h94 : Yq = Y := congrArg (fun z => z.2.1) h92
              have h95 : Rq = R := congrArg (fun z => z.2.2) h92
              rw [h93, h94, h95] at hH
              subst h91
              have hr23 := hrq
              have hF := hF hr23
              exact zd_iret C hr hlk hH hS hr23 (⟨rfl, rfl, hF⟩) dX11_block_84
            · have hF := hF.2 c21
              refine zd_iconst C dX11_block_74 ?_
              refine lv_goto (tgt := 84) C.1 C.2.1 dX11_block_75 (by decide) ?_
              exact zd_iret C hr hlk hH hS (by decide) (⟨rfl, rfl, hF⟩) dX11_block_84
          · have hF := hF.2 c20
            refine lv_aload_n C.1 C.2.1 dX11_block_62 rfl (lv_at hl 0 rfl) ?_
            refine lv_iload_n C.1 C.2.1 dX11_block_63 rfl (lv_at hl 2 rfl) ?_
            obtain ⟨o24, hF⟩ := hF
            refine zgoi (zrunV (As := [.int (zI (b))]) (rest := []) C hE hH hS hl.1 (c_X11_timeOf (l := l) hM (b) hb o24) k_RX11_271 ⟨Nat.le_of_ble_eq_true rfl, Nat.le_of_ble_eq_true rfl⟩ (zM_n0 hM) (zM_k0 hM) rfl rfl rfl (Nat.le_of_ble_eq_true rfl) dX11_block_64 ⟨Nat.zero_le _, Nat.zero_le _⟩) hS (fun rq Xq Yq Rq H locs hrq hq hH hS => ?_)
            obtain ⟨h91, h92⟩ := hq
            have h93 : Xq = X3 := congrArg (fun z => z.1) h92
            have h94 : Yq = Y := congrArg (fun z => z.2.1) h92
            have h95 : Rq = R := congrArg (fun z => z.2.2) h92
            rw [h93, h94, h95] at hH
            subst h91
            have hr25 := hrq
            have hF := hF hr25
            refine lv_goto (tgt := 84) C.1 C.2.1 dX11_block_67 (by decide) ?_
            exact zd_iret C hr hlk hH hS hr25 (⟨rfl, rfl, hF⟩) dX11_block_84
      · have hF := hF.2 c8
        refine zd_bipush C (by decide) dX11_block_45 ?_
        exact zd_iret C hr hlk hH hS (by decide) (⟨rfl, rfl, hF⟩) dX11_block_47
    · have hF := hF.2 c6
      refine lv_iload_n C.1 C.2.1 dX11_block_21 rfl (lv_at hl 3 rfl) ?_
      refine zd_if_ne C hg 34 dX11_block_22 (by decide) (fun c26 => ?_) (fun c26 => ?_)
      · have hF := hF.1 c26
        refine zd_bipush C (by decide) dX11_block_34 ?_
        exact zd_iret C hr hlk hH hS (by decide) (⟨rfl, rfl, hF⟩) dX11_block_36
      · have hF := hF.2 c26
        refine lv_aload_n C.1 C.2.1 dX11_block_25 rfl (lv_at hl 0 rfl) ?_
        refine zg11_27 C hH (zM_n0 hM) (zM_k0 hM) q_1314 dX11_block_26 ?_
        refine zd_iconst C dX11_block_29 ?_
        refine zd_isub C dX11_block_30 ?_
        refine lv_goto (tgt := 36) C.1 C.2.1 dX11_block_31 (by decide) ?_
        obtain ⟨o27, hF⟩ := hF
        exact zd_iret C hr hlk hH hS o27 (⟨rfl, rfl, hF⟩) dX11_block_36
  · have hF := hF.2 c5
    refine zd_bipush C (by decide) dX11_block_13 ?_
    exact zd_iret C hr hlk hH hS (by decide) (⟨rfl, rfl, hF⟩) dX11_block_15
theorem v_X11_block {X Y : Nat → Int → Int} {R : Nat → Int → Option Nat} {i : Nat} (a : Int) (ha : rI a) (b : Int) (hb : rI b) (g : Int) (hg : rI g) (hp : oTN X i) : F_X11_block i X Y R a b g := by
  unfold F_X11_block
  intro hX hY X1 e1 xr1
  have hT := hp
  have o1 : ∀ z, z ≠ i → X1 z = X z := fun z h => by rw [e1, zU_o h]
  have em : ∀ s k, mIs i X1 s k = mIs i X s k := fun s k => by
    unfold mIs
    rw [o1 _ (by omega)]
  refine ⟨oTN_k (o1 _ (by omega)) (o1 _ (by omega)) (o1 _ (by omega)) hT, fun r4 X3 xr3 h4 => ?_⟩
  obtain ⟨e4, e3⟩ := h4
  rw [em] at e4
  have p3 := ch_pK e1 e3
  refine ⟨fun c => ?_, fun c => ⟨by unfold rBlock; rw [← e4, c]; rfl, p3⟩⟩
  rw [c, if_pos rfl] at e3
  have hc := mIs_t.mp (e4.symm.trans c)
  rw [c] at e4
  obtain ⟨hB, h27, hb, eP, eT, hoT⟩ := ch_ok hT e1 e3 hc
  have hk := (hT.2.2 a hc.1 hc.2).2
  have h7 : X3 (i + 7) = X (i + 7) := by rw [e3, zU_o (by omega), zU_o (by omega), e1, zU_o (by omega)]
  have h25 : X3 i 25 = a := by rw [e3, zU_n (by omega), zU_s]
  have eM : ∀ k w, mC X3 i k w = mC (hZ X i 0 a 0) i k w := fun k w => by
    unfold mC
    rw [h7, h25, hZ_o (by omega), hZ_s.2.1]
  have eE : ∀ k w, mC X3 i k w = cE X i a k w := fun k w => by
    unfold mC cE
    rw [h7, h25]
  have en : X3 i 27 - 1 = qN X i a := by
    rw [h27]
    show 1 + X (i + 7) (183 * a) - 1 = X (i + 7) (183 * a)
    omega
  have h0 : 0 ≤ X3 i 27 := by omega
  have u : ∀ y, b ≠ -1 → mIn b 0 (qN X i a) = true → y = bkOf (hZ X i 0 a 0) i b g → y = rBlock X i a b g ∧ pK X X3 i := fun y hb1 hm hy => by
    refine ⟨?_, p3⟩
    unfold rBlock
    rw [← e4, if_pos rfl, if_neg hb1, hm]
    exact hy
  have bd : mIn b 0 (qN X i a) = true → 0 ≤ b ∧ b ≤ X3 i 27 - 1 := fun hm => by
    have := mIn_t.mp hm
    exact ⟨this.1, by omega⟩
  have rg := xr3 i 27
  rw [en]
  refine ⟨fun c1 => ⟨h0, fun cm => ?_, fun cm => ⟨by unfold rBlock; rw [← e4, if_pos rfl, if_neg c1, cm]; rfl, p3⟩⟩, fun c1 => ⟨fun c2 => ⟨by unfold rBlock; rw [← e4, if_pos rfl, if_pos (Classical.not_not.mp c1), if_neg c2], p3⟩, fun c2 => ⟨?_, by unfold rBlock; rw [← e4, if_pos rfl, if_pos (Classical.not_not.mp c1), if_pos (Classical.not_not.mp c2)], p3⟩⟩⟩
  · have hb9 := bd cm
    refine ⟨fun cg => ⟨fun c3 => u _ c1 cm ?_, fun c3 => ⟨fun c4 => u _ c1 cm ?_, fun c4 => ⟨fun c5 => u _ c1 cm ?_, fun c5 => ⟨⟨hB.1, by omega, by omega, by decide, by decide⟩, fun _ => ?_⟩⟩⟩⟩, fun cg => ⟨fun c3 => ⟨fun c4 => ⟨⟨hB.1, by omega, by omega, (mIn_t.mp cg).1, by have := (mIn_t.mp cg).2; omega⟩, fun _ => u _ c1 cm ?_⟩, fun c4 => u _ c1 cm ?_⟩, fun c3 => ⟨⟨hB.1, hb9.1, by omega⟩, fun _ => u _ c1 cm ?_⟩⟩⟩
    · unfold bkOf
      rw [cg, if_neg (by decide), if_neg (by omega)]
    · unfold bkOf
      rw [cg, if_neg (by decide), if_neg (fun q => by omega)]
    · unfold bkOf
      rw [cg, if_neg (by decide), if_neg (fun q => by omega)]
    · have t1 : g.tdiv 10 = g / 10 := Int.tdiv_eq_ediv_of_nonneg (by omega)
      have t2 : g.tmod 10 = g % 10 := Int.tmod_eq_emod_of_nonneg (by omega)
      have gr := ‹rI g›.2
      have m3 := (hk b (by omega) (by rw [h27] at hb9; omega)).2.2.2.1
      rw [← eE] at m3
      refine ⟨by rw [t1]; exact ⟨by omega, by omega⟩, fun c6 => u _ c1 cm ?_, fun c6 => ⟨by rw [t1, t2]; exact ⟨by omega, by omega⟩, ⟨hB.1, by omega, by omega, by omega, by omega⟩, fun _ => u _ c1 cm ?_⟩⟩
      · unfold bkOf
        rw [cg, if_neg (by decide), ← eM, if_neg (fun q => by omega)]
      · unfold bkOf
        rw [cg, if_neg (by decide), ← eM, if_pos ⟨by omega, by omega, by omega, by omega⟩, eM]
    · unfold bkOf
      rw [cg, if_pos rfl, if_neg c3, if_neg c4, eM]
    · unfold bkOf
      rw [cg, if_pos rfl, if_neg c3, if_pos (Classical.not_not.mp c4)]
    · unfold bkOf
      rw [cg, if_pos rfl, if_pos (Classical.not_not.mp c3), eT]
  · rw [← en]
    exact ⟨by omega, by omega⟩
theorem c_X11_block {l : Launch} {D : va_G} {cy : Nat → ClassId} {bs N : Nat} {sa : Nat → Nat} {kd len : Nat → Nat} {X Y : Nat → Int → Int} {R : Nat → Int → Option Nat} {i : Nat} (hM : zM N kd len R i) (a : Int) (ha : rI a) (b : Int) (hb : rI b) (g : Int) (hg : rI g) (hp : oTN X i) : Met l yX11_block (.code yX11_block cX11_block 6 (some .int) :: zTB) (zRm 3 65) (zPc D cy bs sa N kd len X Y R [.ref (bs + (i)), .int (zI (a)), .int (zI (b)), .int (zI (g))]) (zQi D cy bs N kd len (fun r st => st.2.1 = Y ∧ st.2.2 = R ∧ (r = rBlock X i (a) (b) (g) ∧ pK X (st.1) i))) 0 0 (zA bs) := w_X11_block hM a ha b hb g hg (v_X11_block a ha b hb g hg hp)
