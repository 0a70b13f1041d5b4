/-! NET AND BLOCKS -/
theorem hd_ok {X X1 X2 Y Y2 : Nat → Int → Int} {i : Nat} {n c : Int} (e1 : X1 = zU X i 0 0) (hk : hK X1 X2 Y Y2 i) : pK X X2 i ∧ (hS9 X1 X2 i n c → sZ (hZ X i n c 0) X2 i ∧ X2 i 27 = 1 + qN X i c) := by
  have o1 : ∀ z, z ≠ i → X1 z = X z := fun z h => by rw [e1, zU_o h]
  refine ⟨⟨fun a h1 h2 => (hk.1 a h1 (by omega) (by omega)).trans (o1 a h1), ?_⟩, fun h => ⟨hS9_Z 0 (o1 _ (by omega)) (o1 _ (by omega)) ((hk.1 _ (by omega) (by omega) (by omega)).trans (o1 _ (by omega))) ((hk.1 _ (by omega) (by omega) (by omega)).trans (o1 _ (by omega))) h, ?_⟩⟩
  · rw [hk.2.1 0 (by omega) (by decide), e1, zU_s]
  · rw [h.2.2.2.1, o1 _ (by omega)]
abbrev rOk (X : Nat → Int → Int) (i : Nat) (n c : Int) : Bool := mIs i X 1 c && mIs i X 0 n
def wkOf (Z : Nat → Int → Int) (i k : Nat) (w : Int) : Int := if 10 ≤ w then (if sdf Z i k && mIn (w - 10) 0 (Z i 26 - 1) then rLd Z i k (w - 10) else -1) else if w = 0 then sHg (rP Z i) k else if w = 1 then rW Z i k else if w = 2 then rG Z i k else if w = 3 then (if sdf Z i k then sSb (rP Z i) (rW Z i) (sdf Z i) (Z i 27).toNat k else -1) else if w = 4 then (if sdf Z i k then 1 else 0) else -1
def rWork (X : Nat → Int → Int) (i : Nat) (n c k w : Int) : Int := if rOk X i n c && mIn k 0 (qN X i c) then wkOf (hZ X i n c 0) i k.toNat w else -1
def rTwice (X : Nat → Int → Int) (i : Nat) (n c h a b : Int) : Int := if rOk X i n c && (mIn h 0 (X (i + 6) (13 * n + 6) - 1) && (mIn a 0 (qN X i c) && (mIn b 0 (qN X i c) && (sdf (hZ X i n c 0) i a.toNat && sdf (hZ X i n c 0) i b.toNat)))) then rLd (hZ X i n c 0) i a.toNat h - rLd (hZ X i n c 0) i b.toNat h else -9999
/-- a ledger's entry is small -/
theorem hZ_26 {X : Nat → Int → Int} {i : Nat} {n c f : Int} : hZ X i n c f i 26 = X (i + 6) (13 * n + 6) := hZ_s.2.2.1
theorem sdf_s {Z X : Nat → Int → Int} {i : Nat} (h : sZ Z X i) : sdf X i = sdf Z i := sdf_t h.1
/-- ledger rows of sound blocks -/
theorem led_k {X Y : Nat → Int → Int} {i k : Nat} {a : Int} (h : oH X Y i) (hk : (k : Int) < X i 27) (hs : sdf X i k = true) (h0 : 0 ≤ a) (h1 : a < 6) : X (i + 16) (6 * k + a) = rLd X i k a := by
  unfold sdf at hs
  obtain ⟨M, hM⟩ := Option.isSome_iff_exists.mp hs
  unfold rLd
  rw [hM]
  exact h.2.2.2.2 k hk M hM a h0 h1
abbrev cX11_work : ByteArray := prog_13_method_79_code
def yX11_work : MethodName := ⟨RX11, "work", "(IIII)J"⟩
theorem dX11_work_0 : decode cX11_work 0 = .ok (.aload_n 0, 1) := by decide +kernel
theorem dX11_work_1 : decode cX11_work 1 = .ok (.iconst 0, 1) := by decide +kernel
theorem dX11_work_2 : decode cX11_work 2 = .ok (.putfield 88, 3) := by decide +kernel
theorem dX11_work_5 : decode cX11_work 5 = .ok (.aload_n 0, 1) := by decide +kernel
theorem dX11_work_6 : decode cX11_work 6 = .ok (.iload_n 1, 1) := by decide +kernel
theorem dX11_work_7 : decode cX11_work 7 = .ok (.iload_n 2, 1) := by decide +kernel
theorem dX11_work_8 : decode cX11_work 8 = .ok (.invokevirtual 397, 3) := by decide +kernel
theorem dX11_work_11 : decode cX11_work 11 = .ok (.ifCond .eq 11, 3) := by decide +kernel
theorem dX11_work_14 : decode cX11_work 14 = .ok (.aload_n 0, 1) := by decide +kernel
theorem dX11_work_15 : decode cX11_work 15 = .ok (.iload_n 3, 1) := by decide +kernel
theorem dX11_work_16 : decode cX11_work 16 = .ok (.invokevirtual 319, 3) := by decide +kernel
theorem dX11_work_19 : decode cX11_work 19 = .ok (.ifCond .ne 7, 3) := by decide +kernel
theorem dX11_work_22 : decode cX11_work 22 = .ok (.ldc2_w 418, 3) := by decide +kernel
theorem dX11_work_25 : decode cX11_work 25 = .ok (.lreturn, 1) := by decide +kernel
theorem dX11_work_26 : decode cX11_work 26 = .ok (.aload_n 0, 1) := by decide +kernel
theorem dX11_work_27 : decode cX11_work 27 = .ok (.getfield 292, 3) := by decide +kernel
theorem dX11_work_30 : decode cX11_work 30 = .ok (.iload_n 3, 1) := by decide +kernel
theorem dX11_work_31 : decode cX11_work 31 = .ok (.invokestatic 92, 3) := by decide +kernel
theorem dX11_work_34 : decode cX11_work 34 = .ok (.istore 5, 2) := by decide +kernel
theorem dX11_work_36 : decode cX11_work 36 = .ok (.iload 4, 2) := by decide +kernel
theorem dX11_work_38 : decode cX11_work 38 = .ok (.bipush 10, 2) := by decide +kernel
theorem dX11_work_40 : decode cX11_work 40 = .ok (.if_icmp .lt 43, 3) := by decide +kernel
theorem dX11_work_43 : decode cX11_work 43 = .ok (.iload 5, 2) := by decide +kernel
theorem dX11_work_45 : decode cX11_work 45 = .ok (.ifCond .eq 34, 3) := by decide +kernel
theorem dX11_work_48 : decode cX11_work 48 = .ok (.aload_n 0, 1) := by decide +kernel
theorem dX11_work_49 : decode cX11_work 49 = .ok (.iload 4, 2) := by decide +kernel
theorem dX11_work_51 : decode cX11_work 51 = .ok (.bipush 10, 2) := by decide +kernel
theorem dX11_work_53 : decode cX11_work 53 = .ok (.isub, 1) := by decide +kernel
theorem dX11_work_54 : decode cX11_work 54 = .ok (.invokevirtual 289, 3) := by decide +kernel
theorem dX11_work_57 : decode cX11_work 57 = .ok (.ifCond .eq 22, 3) := by decide +kernel
theorem dX11_work_60 : decode cX11_work 60 = .ok (.aload_n 0, 1) := by decide +kernel
theorem dX11_work_61 : decode cX11_work 61 = .ok (.getfield 57, 3) := by decide +kernel
theorem dX11_work_64 : decode cX11_work 64 = .ok (.bipush 6, 2) := by decide +kernel
theorem dX11_work_66 : decode cX11_work 66 = .ok (.iload_n 3, 1) := by decide +kernel
theorem dX11_work_67 : decode cX11_work 67 = .ok (.imul, 1) := by decide +kernel
theorem dX11_work_68 : decode cX11_work 68 = .ok (.iload 4, 2) := by decide +kernel
theorem dX11_work_70 : decode cX11_work 70 = .ok (.iadd, 1) := by decide +kernel
theorem dX11_work_71 : decode cX11_work 71 = .ok (.bipush 10, 2) := by decide +kernel
theorem dX11_work_73 : decode cX11_work 73 = .ok (.isub, 1) := by decide +kernel
theorem dX11_work_74 : decode cX11_work 74 = .ok (.iaload, 1) := by decide +kernel
theorem dX11_work_75 : decode cX11_work 75 = .ok (.i2l, 1) := by decide +kernel
theorem dX11_work_76 : decode cX11_work 76 = .ok (.goto 6, 3) := by decide +kernel
theorem dX11_work_79 : decode cX11_work 79 = .ok (.ldc2_w 418, 3) := by decide +kernel
theorem dX11_work_82 : decode cX11_work 82 = .ok (.lreturn, 1) := by decide +kernel
theorem dX11_work_83 : decode cX11_work 83 = .ok (.aload_n 0, 1) := by decide +kernel
theorem dX11_work_84 : decode cX11_work 84 = .ok (.aload_n 0, 1) := by decide +kernel
theorem dX11_work_85 : decode cX11_work 85 = .ok (.getfield 292, 3) := by decide +kernel
theorem dX11_work_88 : decode cX11_work 88 = .ok (.invokevirtual 334, 3) := by decide +kernel
theorem dX11_work_91 : decode cX11_work 91 = .ok (.iload 4, 2) := by decide +kernel
theorem dX11_work_93 : decode cX11_work 93 = .ok (.tableswitch 86 0 4 #[35, 43, 50, 57, 75], 35) := by decide +kernel
theorem dX11_work_128 : decode cX11_work 128 = .ok (.aload_n 0, 1) := by decide +kernel
theorem dX11_work_129 : decode cX11_work 129 = .ok (.getfield 47, 3) := by decide +kernel
theorem dX11_work_132 : decode cX11_work 132 = .ok (.iload_n 3, 1) := by decide +kernel
theorem dX11_work_133 : decode cX11_work 133 = .ok (.iaload, 1) := by decide +kernel
theorem dX11_work_134 : decode cX11_work 134 = .ok (.i2l, 1) := by decide +kernel
theorem dX11_work_135 : decode cX11_work 135 = .ok (.lreturn, 1) := by decide +kernel
theorem dX11_work_136 : decode cX11_work 136 = .ok (.aload_n 0, 1) := by decide +kernel
theorem dX11_work_137 : decode cX11_work 137 = .ok (.getfield 50, 3) := by decide +kernel
theorem dX11_work_140 : decode cX11_work 140 = .ok (.iload_n 3, 1) := by decide +kernel
theorem dX11_work_141 : decode cX11_work 141 = .ok (.laload, 1) := by decide +kernel
theorem dX11_work_142 : decode cX11_work 142 = .ok (.lreturn, 1) := by decide +kernel
theorem dX11_work_143 : decode cX11_work 143 = .ok (.aload_n 0, 1) := by decide +kernel
theorem dX11_work_144 : decode cX11_work 144 = .ok (.getfield 54, 3) := by decide +kernel
theorem dX11_work_147 : decode cX11_work 147 = .ok (.iload_n 3, 1) := by decide +kernel
theorem dX11_work_148 : decode cX11_work 148 = .ok (.laload, 1) := by decide +kernel
theorem dX11_work_149 : decode cX11_work 149 = .ok (.lreturn, 1) := by decide +kernel
theorem dX11_work_150 : decode cX11_work 150 = .ok (.iload 5, 2) := by decide +kernel
theorem dX11_work_152 : decode cX11_work 152 = .ok (.ifCond .eq 12, 3) := by decide +kernel
theorem dX11_work_155 : decode cX11_work 155 = .ok (.aload_n 0, 1) := by decide +kernel
theorem dX11_work_156 : decode cX11_work 156 = .ok (.getfield 63, 3) := by decide +kernel
theorem dX11_work_159 : decode cX11_work 159 = .ok (.iload_n 3, 1) := by decide +kernel
theorem dX11_work_160 : decode cX11_work 160 = .ok (.laload, 1) := by decide +kernel
theorem dX11_work_161 : decode cX11_work 161 = .ok (.goto 6, 3) := by decide +kernel
theorem dX11_work_164 : decode cX11_work 164 = .ok (.ldc2_w 418, 3) := by decide +kernel
theorem dX11_work_167 : decode cX11_work 167 = .ok (.lreturn, 1) := by decide +kernel
theorem dX11_work_168 : decode cX11_work 168 = .ok (.iload 5, 2) := by decide +kernel
theorem dX11_work_170 : decode cX11_work 170 = .ok (.ifCond .eq 7, 3) := by decide +kernel
theorem dX11_work_173 : decode cX11_work 173 = .ok (.lconst 1, 1) := by decide +kernel
theorem dX11_work_174 : decode cX11_work 174 = .ok (.goto 4, 3) := by decide +kernel
theorem dX11_work_177 : decode cX11_work 177 = .ok (.lconst 0, 1) := by decide +kernel
theorem dX11_work_178 : decode cX11_work 178 = .ok (.lreturn, 1) := by decide +kernel
theorem dX11_work_179 : decode cX11_work 179 = .ok (.ldc2_w 418, 3) := by decide +kernel
theorem dX11_work_182 : decode cX11_work 182 = .ok (.lreturn, 1) := by decide +kernel
theorem q_1787 : Cond.constantLong RX11 418 (zL (-1)) ∈ zTB := zmem 1787 (by decide +kernel) rfl
theorem tsw_0_4 (z : Int) (h0 : ¬ z = 0) (h1 : ¬ z = 1) (h2 : ¬ z = 2) (h3 : ¬ z = 3) (h4 : ¬ z = 4) : z < 0 ∨ 4 < z := by omega
def F_X11_work (i : Nat) (X Y : Nat → Int → Int) (R : Nat → Int → Option Nat) (a : Int) (b : Int) (g : Int) (d : Int) : Prop := (∀ i j, rI (X i j)) → (∀ i j, rL (Y i j)) → ∀ X1 : Nat → Int → Int, X1 = zU X (i) 0 (0) → (∀ i j, rI (X1 i j)) → ((oTN X1 i) ∧ (∀ r5 : Bool, ∀ X3 : Nat → Int → Int, (∀ i j, rI (X3 i j)) → ∀ Y4 : Nat → Int → Int, (∀ i j, rL (Y4 i j)) → (r5 = (mIs i X1 1 (b) && mIs i X1 0 (a)) ∧ hK X1 (X3) Y (Y4) i ∧ (r5 = true → hS9 X1 (X3) i (a) (b) ∧ oH (X3) (Y4) i)) → (((r5 = false) → ((-1) = rWork X i (a) (b) (g) (d) ∧ pK X (X3) i)) ∧ ((r5 = true) → ((0 ≤ X3 i 27) ∧ ((((mIn (g) 0 (X3 i 27 - 1)) = true) → (((d < 10) → ((oW X3 Y4 i) ∧ (∀ Y11 : Nat → Int → Int, (∀ i j, rL (Y11 i j)) → (lT X3 Y4 (Y11) i (X3 (i) 35) 0) → ((d = 0 → ((0 ≤ g ∧ g < 15) ∧ (X3 (i + 13) (g) = rWork X i (a) (b) (g) (d) ∧ pK X (X3) i))) ∧ (d = 1 → ((0 ≤ g ∧ g < 15) ∧ (Y11 (i + 14) (g) = rWork X i (a) (b) (g) (d) ∧ pK X (X3) i))) ∧ (d = 2 → ((0 ≤ g ∧ g < 15) ∧ (Y11 (i + 15) (g) = rWork X i (a) (b) (g) (d) ∧ pK X (X3) i))) ∧ (d = 3 → ((((mHas (X3 (i) 35) (g)) = false) → ((-1) = rWork X i (a) (b) (g) (d) ∧ pK X (X3) i)) ∧ (((mHas (X3 (i) 35) (g)) = true) → ((0 ≤ g ∧ g < 15) ∧ (Y11 (i + 18) (g) = rWork X i (a) (b) (g) (d) ∧ pK X (X3) i))))) ∧ (d = 4 → ((((mHas (X3 (i) 35) (g)) = false) → (0 = rWork X i (a) (b) (g) (d) ∧ pK X (X3) i)) ∧ (((mHas (X3 (i) 35) (g)) = true) → (1 = rWork X i (a) (b) (g) (d) ∧ pK X (X3) i)))) ∧ ((d < 0 ∨ 4 < d) → ((-1) = rWork X i (a) (b) (g) (d) ∧ pK X (X3) i)))))) ∧ ((¬ (d < 10)) → ((((mHas (X3 (i) 35) (g)) = false) → ((-1) = rWork X i (a) (b) (g) (d) ∧ pK X (X3) i)) ∧ (((mHas (X3 (i) 35) (g)) = true) → ((rI (d - 10)) ∧ ((0 ≤ X3 i 26) ∧ ((((mIn (d - 10) 0 (X3 i 26 - 1)) = false) → ((-1) = rWork X i (a) (b) (g) (d) ∧ pK X (X3) i)) ∧ (((mIn (d - 10) 0 (X3 i 26 - 1)) = true) → ((0 ≤ (((6 * g) + d) - 10) ∧ (((6 * g) + d) - 10) < 90) ∧ (X3 (i + 16) (((6 * g) + d) - 10) = rWork X i (a) (b) (g) (d) ∧ pK X (X3) i))))))))))) ∧ (((mIn (g) 0 (X3 i 27 - 1)) = false) → ((-1) = rWork X i (a) (b) (g) (d) ∧ pK X (X3) i))))))))
set_option maxHeartbeats 4000000 in
set_option maxRecDepth 100000 in
theorem w_X11_work {l : Launch} {D : va_G} {cy : Nat → ClassId} {bs N : Nat} {sa : Nat → Nat} {kd len : Nat → Nat} {X Y : Nat → Int → Int} {R : Nat → Int → Option Nat} {i : Nat} (hM : zM N kd len R i) (a : Int) (ha : rI a) (b : Int) (hb : rI b) (g : Int) (hg : rI g) (d : Int) (hd : rI d) (hF : F_X11_work i X Y R a b g d) : Met l yX11_work (.code yX11_work cX11_work 6 (some .long) :: zTB) (zRm 6 140) (zPc D cy bs sa N kd len X Y R [.ref (bs + (i)), .int (zI (a)), .int (zI (b)), .int (zI (g)), .int (zI (d))]) (zQl D cy bs N kd len (fun r st => st.2.2 = R ∧ (r = rWork X i (a) (b) (g) (d) ∧ pK X (st.1) i))) 0 0 (zA bs) := by
  refine zstart (by decide) (Nat.le_of_ble_eq_true rfl) ?_
  intro p e s m args below meth c ls C hE hH hr hlk hnm hl hargs
  have hF := hF hH.2.2.1 hH.2.2.2
  have hS : va_S (zA bs) s.heap s.heap [] := va_S.rf
  have hl : lv_has ls 6 [(0, .ref (bs + (i))), (1, .int (zI (a))), (2, .int (zI (b))), (3, .int (zI (g))), (4, .int (zI (d)))] := hl
  refine lv_aload_n C.1 C.2.1 dX11_work_0 rfl (lv_at hl 0 rfl) ?_
  refine zd_iconst C dX11_work_1 ?_
  refine zp11_0 C hH hS (zM_n0 hM) (zM_k0 hM) q_1287 (by decide) dX11_work_2 (fun H locs hH hS => ?_)
  obtain ⟨X1, eX1⟩ : ∃ z, z = zU X (i) 0 (0) := ⟨_, rfl⟩
  rw [← eX1] at hH
  have hF := hF X1 eX1 hH.2.2.1
  refine lv_aload_n C.1 C.2.1 dX11_work_5 rfl (lv_at hl 0 rfl) ?_
  refine lv_iload_n C.1 C.2.1 dX11_work_6 rfl (lv_at hl 1 rfl) ?_
  refine lv_iload_n C.1 C.2.1 dX11_work_7 rfl (lv_at hl 2 rfl) ?_
  obtain ⟨o2, hF⟩ := hF
  refine zgoi (zrunV (As := [.int (zI (a)), .int (zI (b))]) (rest := []) C hE hH hS hl.1 (c_X11_hand (l := l) hM (a) ha (b) hb o2) k_RX11_397 ⟨Nat.le_of_ble_eq_true rfl, Nat.le_of_ble_eq_true rfl⟩ (zM_n0 hM) (zM_k0 hM) rfl rfl rfl (Nat.le_of_ble_eq_true rfl) dX11_work_8 ⟨Nat.zero_le _, Nat.zero_le _⟩) hS (fun rq X3 Y4 Rq H locs hrq hq hH hS => ?_)
  obtain ⟨h9R, hq⟩ := hq
  dsimp only at h9R
  rw [h9R] at hH
  obtain ⟨r5, h91, hq⟩ := hq
  subst h91
  have hF := hF r5 X3 hH.2.2.1 Y4 hH.2.2.2 hq
  refine zd_ifB_eq C 22 dX11_work_11 (by decide) (fun c6 => ?_) (fun c6 => ?_)
  · have hF := hF.1 c6
    refine lv_ldc2 (v := zL (-1)) C.1 C.2.1 C.2.2.2.1 (C.2.2.2.2.1 _ q_1787) dX11_work_22 ?_
    exact zd_lret C hr hlk hH hS (by decide) (⟨rfl, hF⟩) dX11_work_25
  · have hF := hF.2 c6
    refine lv_aload_n C.1 C.2.1 dX11_work_14 rfl (lv_at hl 0 rfl) ?_
    refine lv_iload_n C.1 C.2.1 dX11_work_15 rfl (lv_at hl 3 rfl) ?_
    obtain ⟨o7, hF⟩ := hF
    refine zgoi (zrunV (As := [.int (zI (g))]) (rest := []) C hE hH hS hl.1 (c_X11_isBlock (l := l) hM (g) hg o7) k_RX11_319 ⟨Nat.le_of_ble_eq_true rfl, Nat.le_of_ble_eq_true rfl⟩ (zM_n0 hM) (zM_k0 hM) rfl rfl rfl (Nat.le_of_ble_eq_true rfl) dX11_work_16 ⟨Nat.zero_le _, Nat.zero_le _⟩) hS (fun rq Xq Yq Rq H locs hrq hq hH hS => ?_)
    obtain ⟨h91, h92⟩ := hq
    have h93 : Xq = X3 := congrArg (fun z => z.1) h92
    have h94 : Yq = Y4 := congrArg (fun z => z.2.1) h92
    have h95 : Rq = R := congrArg (fun z => z.2.2) h92
    rw [h93, h94, h95] at hH
    subst h91
    refine zd_ifB_ne C 26 dX11_work_19 (by decide) (fun c8 => ?_) (fun c8 => ?_)
    · have hF := hF.1 c8
      refine lv_aload_n C.1 C.2.1 dX11_work_26 rfl (lv_at hl 0 rfl) ?_
      refine zg11_35 C hH (zM_n0 hM) (zM_k0 hM) q_1322 dX11_work_27 ?_
      refine lv_iload_n C.1 C.2.1 dX11_work_30 rfl (lv_at hl 3 rfl) ?_
      refine zgoi (zrunS (As := [.int (zI (X3 (i) 35)), .int (zI (g))]) (rest := []) C hE hH hS hl.1 (c_X11_has (l := l)  (X3 (i) 35) (hH.2.2.1 _ _) (g) hg) k_RX11_92 ⟨Nat.le_of_ble_eq_true rfl, Nat.le_of_ble_eq_true rfl⟩ rfl (Nat.le_of_ble_eq_true rfl) dX11_work_31 ⟨Nat.zero_le _, Nat.zero_le _⟩) hS (fun rq Xq Yq Rq H locs hrq hq hH hS => ?_)
      obtain ⟨h91, h92⟩ := hq
      have h93 : Xq = X3 := congrArg (fun z => z.1) h92
      have h94 : Yq = Y4 := congrArg (fun z => z.2.1) h92
      have h95 : Rq = R := congrArg (fun z => z.2.2) h92
      rw [h93, h94, h95] at hH
      subst h91
      refine lv_istore (lv' := [(5, .int (zI (bz (mHas (X3 (i) 35) (g))))), (0, .ref (bs + (i))), (1, .int (zI (a))), (2, .int (zI (b))), (3, .int (zI (g))), (4, .int (zI (d)))]) C.1 C.2.1 dX11_work_34 hl (by decide) rfl (fun ls hl => ?_)
      refine lv_iload C.1 C.2.1 dX11_work_36 (lv_at hl 5 rfl) ?_
      refine zd_bipush C (by decide) dX11_work_38 ?_
      refine zd_icmp_lt C hd (by decide) 83 dX11_work_40 (by decide) (fun c9 => ?_) (fun c9 => ?_)
      · have hF := hF.1 c9
        refine lv_aload_n C.1 C.2.1 dX11_work_83 rfl (lv_at hl 1 rfl) ?_
        refine lv_aload_n C.1 C.2.1 dX11_work_84 rfl (lv_at hl 1 rfl) ?_
        refine zg11_35 C hH (zM_n0 hM) (zM_k0 hM) q_1322 dX11_work_85 ?_
        obtain ⟨o10, hF⟩ := hF
        refine zgov (zrunV (As := [.int (zI (X3 (i) 35))]) (rest := []) C hE hH hS hl.1 (c_X11_laySubtrees (l := l) hM (X3 (i) 35) (hH.2.2.1 _ _) o10) k_RX11_334 ⟨Nat.le_of_ble_eq_true rfl, Nat.le_of_ble_eq_true rfl⟩ (zM_n0 hM) (zM_k0 hM) rfl rfl rfl (Nat.le_of_ble_eq_true rfl) dX11_work_88 ⟨Nat.zero_le _, Nat.zero_le _⟩) hS (fun Xq Y11 Rq H locs hq hH hS => ?_)
        obtain ⟨h9X, h9R, hq⟩ := hq
        dsimp only at h9X h9R
        rw [h9X, h9R] at hH
        have hF := hF Y11 hH.2.2.2 hq
        refine lv_iload C.1 C.2.1 dX11_work_91 (lv_at hl 5 rfl) ?_
        by_cases c12_0 : d = 0
        · have hF := hF.1 c12_0
          refine zd_tabI C hd 128 (0) c12_0 dX11_work_93 (by decide) (by decide) rfl (by decide) ?_
          refine lv_aload_n C.1 C.2.1 dX11_work_128 rfl (lv_at hl 1 rfl) ?_
          refine zg11_31 C hH (zM_n0 hM) (zM_k0 hM) q_1318 (zM_r13 hM) dX11_work_129 ?_
          refine lv_iload_n C.1 C.2.1 dX11_work_132 rfl (lv_at hl 4 rfl) ?_
          obtain ⟨o13, hF⟩ := hF
          refine zd_iald C hH (zM_n13 hM) (zM_k13 hM) o13.1 (by rw [zM_l13 hM]; exact o13.2) (by rw [zM_l13 hM]; decide) dX11_work_133 ?_
          refine zd_i2l C (hH.2.2.1 _ _) dX11_work_134 ?_
          exact zd_lret C hr hlk hH hS (rI_rL (hH.2.2.1 _ _)) (⟨rfl, hF⟩) dX11_work_135
        · have hF := hF.2
          by_cases c12_1 : d = 1
          · have hF := hF.1 c12_1
            refine zd_tabI C hd 136 (1) c12_1 dX11_work_93 (by decide) (by decide) rfl (by decide) ?_
            refine lv_aload_n C.1 C.2.1 dX11_work_136 rfl (lv_at hl 1 rfl) ?_
            refine zg11_32 C hH (zM_n0 hM) (zM_k0 hM) q_1319 (zM_r14 hM) dX11_work_137 ?_
            refine lv_iload_n C.1 C.2.1 dX11_work_140 rfl (lv_at hl 4 rfl) ?_
            obtain ⟨o14, hF⟩ := hF
            refine zd_lald C hH (zM_n14 hM) (zM_k14 hM) o14.1 (by rw [zM_l14 hM]; exact o14.2) (by rw [zM_l14 hM]; decide) dX11_work_141 ?_
            exact zd_lret C hr hlk hH hS (hH.2.2.2 _ _) (⟨rfl, hF⟩) dX11_work_142
          · have hF := hF.2
            by_cases c12_2 : d = 2
            · have hF := hF.1 c12_2
              refine zd_tabI C hd 143 (2) c12_2 dX11_work_93 (by decide) (by decide) rfl (by decide) ?_
              refine lv_aload_n C.1 C.2.1 dX11_work_143 rfl (lv_at hl 1 rfl) ?_
              refine zg11_33 C hH (zM_n0 hM) (zM_k0 hM) q_1320 (zM_r15 hM) dX11_work_144 ?_
              refine lv_iload_n C.1 C.2.1 dX11_work_147 rfl (lv_at hl 4 rfl) ?_
              obtain ⟨o15, hF⟩ := hF
              refine zd_lald C hH (zM_n15 hM) (zM_k15 hM) o15.1 (by rw [zM_l15 hM]; exact o15.2) (by rw [zM_l15 hM]; decide) dX11_work_148 ?_
              exact zd_lret C hr hlk hH hS (hH.2.2.2 _ _) (⟨rfl, hF⟩) dX11_work_149
            · have hF := hF.2
              by_cases c12_3 : d = 3
              · have hF := hF.1 c12_3
                refine zd_tabI C hd 150 (3) c12_3 dX11_work_93 (by decide) (by decide) rfl (by decide) ?_
                refine lv_iload C.1 C.2.1 dX11_work_150 (lv_at hl 0 rfl) ?_
                refine zd_ifB_eq C 164 dX11_work_152 (by decide) (fun c16 => ?_) (fun c16 => ?_)
                · have hF := hF.1 c16
                  refine lv_ldc2 (v := zL (-1)) C.1 C.2.1 C.2.2.2.1 (C.2.2.2.2.1 _ q_1787) dX11_work_164 ?_
                  exact zd_lret C hr hlk hH hS (by decide) (⟨rfl, hF⟩) dX11_work_167
                · have hF := hF.2 c16
                  refine lv_aload_n C.1 C.2.1 dX11_work_155 rfl (lv_at hl 1 rfl) ?_
                  refine zg11_39 C hH (zM_n0 hM) (zM_k0 hM) q_1326 (zM_r18 hM) dX11_work_156 ?_
                  refine lv_iload_n C.1 C.2.1 dX11_work_159 rfl (lv_at hl 4 rfl) ?_
                  obtain ⟨o17, hF⟩ := hF
                  refine zd_lald C hH (zM_n18 hM) (zM_k18 hM) o17.1 (by rw [zM_l18 hM]; exact o17.2) (by rw [zM_l18 hM]; decide) dX11_work_160 ?_
                  refine lv_goto (tgt := 167) C.1 C.2.1 dX11_work_161 (by decide) ?_
                  exact zd_lret C hr hlk hH hS (hH.2.2.2 _ _) (⟨rfl, hF⟩) dX11_work_167
              · have hF := hF.2
                by_cases c12_4 : d = 4
                · have hF := hF.1 c12_4
                  refine zd_tabI C hd 168 (4) c12_4 dX11_work_93 (by decide) (by decide) rfl (by decide) ?_
                  refine lv_iload C.1 C.2.1 dX11_work_168 (lv_at hl 0 rfl) ?_
                  refine zd_ifB_eq C 177 dX11_work_170 (by decide) (fun c18 => ?_) (fun c18 => ?_)
                  · have hF := hF.1 c18
                    refine lv_lconst (v := zL 0) C.1 C.2.1 dX11_work_177 rfl ?_
                    exact zd_lret C hr hlk hH hS (by decide) (⟨rfl, hF⟩) dX11_work_178
                  · have hF := hF.2 c18
                    refine lv_lconst (v := zL 1) C.1 C.2.1 dX11_work_173 rfl ?_
                    refine lv_goto (tgt := 178) C.1 C.2.1 dX11_work_174 (by decide) ?_
                    exact zd_lret C hr hlk hH hS (by decide) (⟨rfl, hF⟩) dX11_work_178
                · have hF := hF.2
                  have c12 := tsw_0_4 (d) c12_0 c12_1 c12_2 c12_3 c12_4
                  have hF := hF c12
                  refine zd_tabO C hd 179 c12 dX11_work_93 (by decide) ?_
                  refine lv_ldc2 (v := zL (-1)) C.1 C.2.1 C.2.2.2.1 (C.2.2.2.2.1 _ q_1787) dX11_work_179 ?_
                  exact zd_lret C hr hlk hH hS (by decide) (⟨rfl, hF⟩) dX11_work_182
      · have hF := hF.2 c9
        refine lv_iload C.1 C.2.1 dX11_work_43 (lv_at hl 0 rfl) ?_
        refine zd_ifB_eq C 79 dX11_work_45 (by decide) (fun c19 => ?_) (fun c19 => ?_)
        · have hF := hF.1 c19
          refine lv_ldc2 (v := zL (-1)) C.1 C.2.1 C.2.2.2.1 (C.2.2.2.2.1 _ q_1787) dX11_work_79 ?_
          exact zd_lret C hr hlk hH hS (by decide) (⟨rfl, hF⟩) dX11_work_82
        · have hF := hF.2 c19
          refine lv_aload_n C.1 C.2.1 dX11_work_48 rfl (lv_at hl 1 rfl) ?_
          refine lv_iload C.1 C.2.1 dX11_work_49 (lv_at hl 5 rfl) ?_
          refine zd_bipush C (by decide) dX11_work_51 ?_
          refine zd_isub C dX11_work_53 ?_
          obtain ⟨o20, hF⟩ := hF
          obtain ⟨o21, hF⟩ := hF
          refine zgoi (zrunV (As := [.int (zI (d - 10))]) (rest := []) C hE hH hS hl.1 (c_X11_isAccount (l := l) hM (d - 10) o20 o21) k_RX11_289 ⟨Nat.le_of_ble_eq_true rfl, Nat.le_of_ble_eq_true rfl⟩ (zM_n0 hM) (zM_k0 hM) rfl rfl rfl (Nat.le_of_ble_eq_true rfl) dX11_work_54 ⟨Nat.zero_le _, Nat.zero_le _⟩) hS (fun rq Xq Yq Rq H locs hrq hq hH hS => ?_)
          obtain ⟨h91, h92⟩ := hq
          have h93 : Xq = X3 := congrArg (fun z => z.1) h92
          have h94 : Yq = Y4 := congrArg (fun z => z.2.1) h92
          have h95 : Rq = R := congrArg (fun z => z.2.2) h92
          rw [h93, h94, h95] at hH
          subst h91
          refine zd_ifB_eq C 79 dX11_work_57 (by decide) (fun c22 => ?_) (fun c22 => ?_)
          · have hF := hF.1 c22
            refine lv_ldc2 (v := zL (-1)) C.1 C.2.1 C.2.2.2.1 (C.2.2.2.2.1 _ q_1787) dX11_work_79 ?_
            exact zd_lret C hr hlk hH hS (by decide) (⟨rfl, hF⟩) dX11_work_82
          · have hF := hF.2 c22
            refine lv_aload_n C.1 C.2.1 dX11_work_60 rfl (lv_at hl 1 rfl) ?_
            refine zg11_34 C hH (zM_n0 hM) (zM_k0 hM) q_1321 (zM_r16 hM) dX11_work_61 ?_
            refine zd_bipush C (by decide) dX11_work_64 ?_
            refine lv_iload_n C.1 C.2.1 dX11_work_66 rfl (lv_at hl 4 rfl) ?_
            refine zd_imul C dX11_work_67 ?_
            refine lv_iload C.1 C.2.1 dX11_work_68 (lv_at hl 5 rfl) ?_
            refine zd_iadd C dX11_work_70 ?_
            refine zd_bipush C (by decide) dX11_work_71 ?_
            refine zd_isub C dX11_work_73 ?_
            obtain ⟨o23, hF⟩ := hF
            refine zd_iald C hH (zM_n16 hM) (zM_k16 hM) o23.1 (by rw [zM_l16 hM]; exact o23.2) (by rw [zM_l16 hM]; decide) dX11_work_74 ?_
            refine zd_i2l C (hH.2.2.1 _ _) dX11_work_75 ?_
            refine lv_goto (tgt := 82) C.1 C.2.1 dX11_work_76 (by decide) ?_
            exact zd_lret C hr hlk hH hS (rI_rL (hH.2.2.1 _ _)) (⟨rfl, hF⟩) dX11_work_82
    · have hF := hF.2 c8
      refine lv_ldc2 (v := zL (-1)) C.1 C.2.1 C.2.2.2.1 (C.2.2.2.2.1 _ q_1787) dX11_work_22 ?_
      exact zd_lret C hr hlk hH hS (by decide) (⟨rfl, hF⟩) dX11_work_25
theorem v_X11_work {X Y : Nat → Int → Int} {R : Nat → Int → Option Nat} {i : Nat} (a : Int) (ha : rI a) (b : Int) (hb : rI b) (g : Int) (hg : rI g) (d : Int) (hd : rI d) (hp : oTN X i) : F_X11_work i X Y R a b g d := by
  unfold F_X11_work
  intro hX hY X1 e1 xr1
  have hT := hp
  have o1 : ∀ z, z ≠ i → X1 z = X z := fun z h => by rw [e1, zU_o h]
  have em : ∀ s k, mIs i X1 s k = mIs i X s k := fun s k => by
    unfold mIs
    rw [o1 _ (by omega)]
  refine ⟨oTN_k (o1 _ (by omega)) (o1 _ (by omega)) (o1 _ (by omega)) hT, fun r5 X3 xr3 Y4 yr4 h5 => ?_⟩
  obtain ⟨e5, hk, h5⟩ := h5
  rw [em, em] at e5
  obtain ⟨p3, hz⟩ := hd_ok (n := a) (c := b) e1 hk
  refine ⟨fun c => ⟨by unfold rWork rOk; rw [← e5, c]; rfl, p3⟩, fun c => ?_⟩
  rw [c] at e5
  obtain ⟨h9, h⟩ := h5 c
  obtain ⟨z, h27⟩ := hz h9
  have hb := h.1.2.2.1
  have hA := h.1.2.1
  have hBs := h.1.2.2.2
  have en : X3 i 27 - 1 = qN X i b := by
    rw [h27]
    show 1 + X (i + 7) (183 * b) - 1 = X (i + 7) (183 * b)
    omega
  have h0 : 0 ≤ X3 i 27 := by omega
  have h35 := h.2.2.2.1
  have h26 : X3 i 26 = X (i + 6) (13 * a + 6) := z.1.2.2.2.2.1.trans hZ_26
  have hx : ∀ k, mIn k 0 (qN X i b) = true → (0 ≤ k ∧ k < X3 i 27) ∧ mHas (X3 i 35) k = sdf (hZ X i a b 0) i k.toNat := fun k hk => by
    have hm := mIn_t.mp hk
    have h2 : k ≤ X (i + 7) (183 * b) := hm.2
    have h3 : k < X3 i 27 := by rw [h27]; show k < 1 + X (i + 7) (183 * b); omega
    refine ⟨⟨hm.1, h3⟩, ?_⟩
    rw [← sdf_s z, h35]
    have q := bS_has (sdf X3 i) (n := (X3 i 27).toNat) (k := k.toNat) (by omega) (by omega)
    rw [show ((k.toNat : Nat) : Int) = k by omega] at q
    exact q
  have ld : ∀ k w, mIn k 0 (qN X i b) = true → mHas (X3 i 35) k = true → 0 ≤ w → w < 6 → X3 (i + 16) (6 * k + w) = rLd (hZ X i a b 0) i k.toNat w ∧ 0 ≤ X3 (i + 16) (6 * k + w) ∧ X3 (i + 16) (6 * k + w) ≤ 100000 := fun k w hk hs w0 w1 => by
    obtain ⟨⟨k0, k1⟩, k2⟩ := hx k hk
    rw [k2, ← sdf_s z] at hs
    have q := led_k h (k := k.toNat) (a := w) (by omega) hs w0 w1
    rw [show ((k.toNat : Nat) : Int) = k by omega] at q
    unfold sdf at hs
    obtain ⟨M, hM⟩ := Option.isSome_iff_exists.mp hs
    have b := rS_b hA hBs k.toNat (by omega) M hM w w0 w1
    have e : rLd X3 i k.toNat w = M w := by
      unfold rLd
      rw [hM]
      rfl
    rw [q, ← rLd_s z, e]
    exact ⟨rfl, b.1, by omega⟩
  rw [en]
  have w10 : ∀ w, w < 10 → ∀ k, wkOf (hZ X i a b 0) i k w = (if w = 0 then ((sHg (rP X3 i) k : Nat) : Int) else if w = 1 then rW X3 i k else if w = 2 then rG X3 i k else if w = 3 then (if sdf (hZ X i a b 0) i k then sSb (rP X3 i) (rW X3 i) (sdf X3 i) (X3 i 27).toNat k else -1) else if w = 4 then (if sdf (hZ X i a b 0) i k then 1 else 0) else -1) := fun w hw k => by
    unfold wkOf
    rw [if_neg (by omega), rP_t z.1, rW_t z.1, rG_t z.1, sdf_s z, z.1.2.2.2.2.2.1]
  refine ⟨h0, fun cm => ?_, fun cm => ⟨by unfold rWork rOk; rw [← e5, cm]; rfl, p3⟩⟩
  obtain ⟨⟨g0, g1⟩, hs⟩ := hx g cm
  have u : ∀ y, y = wkOf (hZ X i a b 0) i g.toNat d → y = rWork X i a b g d ∧ pK X X3 i := fun y hy => by
    refine ⟨?_, p3⟩
    unfold rWork rOk
    rw [← e5, cm]
    exact hy
  have hl := h.2.2.1 g.toNat (by omega)
  rw [show ((g.toNat : Nat) : Int) = g by omega] at hl
  refine ⟨fun cd => ⟨oH_W h, fun Y11 yr hlT => ⟨fun e => ⟨⟨g0, by omega⟩, u _ ?_⟩, fun e => ⟨⟨g0, by omega⟩, u _ ?_⟩, fun e => ⟨⟨g0, by omega⟩, u _ ?_⟩, fun e => ⟨fun ch => u _ ?_, fun ch => ⟨⟨g0, by omega⟩, u _ ?_⟩⟩, fun e => ⟨fun ch => u _ ?_, fun ch => u _ ?_⟩, fun e => u _ ?_⟩⟩, fun cd => ⟨fun ch => u _ ?_, fun ch => ⟨by have := ‹rI d›.2; exact ⟨by omega, by omega⟩, by rw [h26]; exact (by have := hA.1; rw [h26] at this; exact this.1), fun cn => u _ ?_, fun cn => ⟨?_, u _ ?_⟩⟩⟩⟩
  · rw [w10 _ cd, if_pos e]
    exact hl.1
  · rw [w10 _ cd, if_neg (by omega), if_pos e, hlT.1 _ (by omega)]
    exact hl.2.1
  · rw [w10 _ cd, if_neg (by omega), if_neg (by omega), if_pos e, hlT.1 _ (by omega)]
    exact hl.2.2
  · rw [w10 _ cd, if_neg (by omega), if_neg (by omega), if_neg (by omega), if_pos e, ← hs, ch]
    rfl
  · rw [w10 _ cd, if_neg (by omega), if_neg (by omega), if_neg (by omega), if_pos e, ← hs, ch, if_pos rfl]
    have q := hlT.2 g.toNat (by omega) (by omega)
    rw [show ((g.toNat : Nat) : Int) = g by omega] at q
    rw [q]
    refine sSb_cong (n := (X3 i 27).toNat) (fun k hk => (h.2.2.1 k (by omega)).2.1) (fun k hk => ?_) g.toNat (by omega)
    rw [h35]
    exact bS_has _ (by omega) hk
  · rw [w10 _ cd, if_neg (by omega), if_neg (by omega), if_neg (by omega), if_neg (by omega), if_pos e, ← hs, ch]
    rfl
  · rw [w10 _ cd, if_neg (by omega), if_neg (by omega), if_neg (by omega), if_neg (by omega), if_pos e, ← hs, ch]
    rfl
  · rw [w10 _ cd, if_neg (by omega), if_neg (by omega), if_neg (by omega), if_neg (by omega), if_neg (by omega)]
  · unfold wkOf
    rw [if_pos (by omega), ← hs, ch]
    rfl
  · unfold wkOf
    rw [if_pos (by omega), ← hs, ch, hZ_26, ← h26, cn]
    rfl
  · have := mIn_t.mp cn
    have := hA.1
    exact ⟨by omega, by omega⟩
  · have hm := mIn_t.mp cn
    have h6 := hA.1
    unfold wkOf
    rw [if_pos (by omega), ← hs, ch, hZ_26, ← h26, cn, show 6 * g + d - 10 = 6 * g + (d - 10) by omega]
    exact (ld g (d - 10) cm ch hm.1 (by omega)).1
theorem c_X11_work {l : Launch} {D : va_G} {cy : Nat → ClassId} {bs N : Nat} {sa : Nat → Nat} {kd len : Nat → Nat} {X Y : Nat → Int → Int} {R : Nat → Int → Option Nat} {i : Nat} (hM : zM N kd len R i) (a : Int) (ha : rI a) (b : Int) (hb : rI b) (g : Int) (hg : rI g) (d : Int) (hd : rI d) (hp : oTN X i) : Met l yX11_work (.code yX11_work cX11_work 6 (some .long) :: zTB) (zRm 6 140) (zPc D cy bs sa N kd len X Y R [.ref (bs + (i)), .int (zI (a)), .int (zI (b)), .int (zI (g)), .int (zI (d))]) (zQl D cy bs N kd len (fun r st => st.2.2 = R ∧ (r = rWork X i (a) (b) (g) (d) ∧ pK X (st.1) i))) 0 0 (zA bs) := w_X11_work hM a ha b hb g hg d hd (v_X11_work a ha b hb g hg d hd hp)
abbrev cX11_twice : ByteArray := prog_13_method_134_code
def yX11_twice : MethodName := ⟨RX11, "twice", "(IIIII)I"⟩
theorem dX11_twice_0 : decode cX11_twice 0 = .ok (.aload_n 0, 1) := by decide +kernel
theorem dX11_twice_1 : decode cX11_twice 1 = .ok (.iconst 0, 1) := by decide +kernel
theorem dX11_twice_2 : decode cX11_twice 2 = .ok (.putfield 88, 3) := by decide +kernel
theorem dX11_twice_5 : decode cX11_twice 5 = .ok (.aload_n 0, 1) := by decide +kernel
theorem dX11_twice_6 : decode cX11_twice 6 = .ok (.iload_n 1, 1) := by decide +kernel
theorem dX11_twice_7 : decode cX11_twice 7 = .ok (.iload_n 2, 1) := by decide +kernel
theorem dX11_twice_8 : decode cX11_twice 8 = .ok (.invokevirtual 397, 3) := by decide +kernel
theorem dX11_twice_11 : decode cX11_twice 11 = .ok (.ifCond .eq 53, 3) := by decide +kernel
theorem dX11_twice_14 : decode cX11_twice 14 = .ok (.aload_n 0, 1) := by decide +kernel
theorem dX11_twice_15 : decode cX11_twice 15 = .ok (.iload_n 3, 1) := by decide +kernel
theorem dX11_twice_16 : decode cX11_twice 16 = .ok (.invokevirtual 289, 3) := by decide +kernel
theorem dX11_twice_19 : decode cX11_twice 19 = .ok (.ifCond .eq 45, 3) := by decide +kernel
theorem dX11_twice_22 : decode cX11_twice 22 = .ok (.aload_n 0, 1) := by decide +kernel
theorem dX11_twice_23 : decode cX11_twice 23 = .ok (.iload 4, 2) := by decide +kernel
theorem dX11_twice_25 : decode cX11_twice 25 = .ok (.invokevirtual 319, 3) := by decide +kernel
theorem dX11_twice_28 : decode cX11_twice 28 = .ok (.ifCond .eq 36, 3) := by decide +kernel
theorem dX11_twice_31 : decode cX11_twice 31 = .ok (.aload_n 0, 1) := by decide +kernel
theorem dX11_twice_32 : decode cX11_twice 32 = .ok (.iload 5, 2) := by decide +kernel
theorem dX11_twice_34 : decode cX11_twice 34 = .ok (.invokevirtual 319, 3) := by decide +kernel
theorem dX11_twice_37 : decode cX11_twice 37 = .ok (.ifCond .eq 27, 3) := by decide +kernel
theorem dX11_twice_40 : decode cX11_twice 40 = .ok (.aload_n 0, 1) := by decide +kernel
theorem dX11_twice_41 : decode cX11_twice 41 = .ok (.getfield 292, 3) := by decide +kernel
theorem dX11_twice_44 : decode cX11_twice 44 = .ok (.iload 4, 2) := by decide +kernel
theorem dX11_twice_46 : decode cX11_twice 46 = .ok (.invokestatic 92, 3) := by decide +kernel
theorem dX11_twice_49 : decode cX11_twice 49 = .ok (.ifCond .eq 15, 3) := by decide +kernel
theorem dX11_twice_52 : decode cX11_twice 52 = .ok (.aload_n 0, 1) := by decide +kernel
theorem dX11_twice_53 : decode cX11_twice 53 = .ok (.getfield 292, 3) := by decide +kernel
theorem dX11_twice_56 : decode cX11_twice 56 = .ok (.iload 5, 2) := by decide +kernel
theorem dX11_twice_58 : decode cX11_twice 58 = .ok (.invokestatic 92, 3) := by decide +kernel
theorem dX11_twice_61 : decode cX11_twice 61 = .ok (.ifCond .ne 7, 3) := by decide +kernel
theorem dX11_twice_64 : decode cX11_twice 64 = .ok (.sipush (-9999), 3) := by decide +kernel
theorem dX11_twice_67 : decode cX11_twice 67 = .ok (.ireturn, 1) := by decide +kernel
theorem dX11_twice_68 : decode cX11_twice 68 = .ok (.aload_n 0, 1) := by decide +kernel
theorem dX11_twice_69 : decode cX11_twice 69 = .ok (.getfield 57, 3) := by decide +kernel
theorem dX11_twice_72 : decode cX11_twice 72 = .ok (.bipush 6, 2) := by decide +kernel
theorem dX11_twice_74 : decode cX11_twice 74 = .ok (.iload 4, 2) := by decide +kernel
theorem dX11_twice_76 : decode cX11_twice 76 = .ok (.imul, 1) := by decide +kernel
theorem dX11_twice_77 : decode cX11_twice 77 = .ok (.iload_n 3, 1) := by decide +kernel
theorem dX11_twice_78 : decode cX11_twice 78 = .ok (.iadd, 1) := by decide +kernel
theorem dX11_twice_79 : decode cX11_twice 79 = .ok (.iaload, 1) := by decide +kernel
theorem dX11_twice_80 : decode cX11_twice 80 = .ok (.aload_n 0, 1) := by decide +kernel
theorem dX11_twice_81 : decode cX11_twice 81 = .ok (.getfield 57, 3) := by decide +kernel
theorem dX11_twice_84 : decode cX11_twice 84 = .ok (.bipush 6, 2) := by decide +kernel
theorem dX11_twice_86 : decode cX11_twice 86 = .ok (.iload 5, 2) := by decide +kernel
theorem dX11_twice_88 : decode cX11_twice 88 = .ok (.imul, 1) := by decide +kernel
theorem dX11_twice_89 : decode cX11_twice 89 = .ok (.iload_n 3, 1) := by decide +kernel
theorem dX11_twice_90 : decode cX11_twice 90 = .ok (.iadd, 1) := by decide +kernel
theorem dX11_twice_91 : decode cX11_twice 91 = .ok (.iaload, 1) := by decide +kernel
theorem dX11_twice_92 : decode cX11_twice 92 = .ok (.isub, 1) := by decide +kernel
theorem dX11_twice_93 : decode cX11_twice 93 = .ok (.ireturn, 1) := by decide +kernel
def F_X11_twice (i : Nat) (X Y : Nat → Int → Int) (R : Nat → Int → Option Nat) (a : Int) (b : Int) (g : Int) (d : Int) (f : Int) : Prop := (∀ i j, rI (X i j)) → (∀ i j, rL (Y i j)) → ∀ X1 : Nat → Int → Int, X1 = zU X (i) 0 (0) → (∀ i j, rI (X1 i j)) → ((oTN X1 i) ∧ (∀ r5 : Bool, ∀ X3 : Nat → Int → Int, (∀ i j, rI (X3 i j)) → ∀ Y4 : Nat → Int → Int, (∀ i j, rL (Y4 i j)) → (r5 = (mIs i X1 1 (b) && mIs i X1 0 (a)) ∧ hK X1 (X3) Y (Y4) i ∧ (r5 = true → hS9 X1 (X3) i (a) (b) ∧ oH (X3) (Y4) i)) → (((r5 = false) → ((-9999) = rTwice X i (a) (b) (g) (d) (f) ∧ pK X (X3) i)) ∧ ((r5 = true) → ((0 ≤ X3 i 26) ∧ ((((mIn (g) 0 (X3 i 26 - 1)) = false) → ((-9999) = rTwice X i (a) (b) (g) (d) (f) ∧ pK X (X3) i)) ∧ (((mIn (g) 0 (X3 i 26 - 1)) = true) → ((0 ≤ X3 i 27) ∧ ((((mIn (d) 0 (X3 i 27 - 1)) = false) → ((-9999) = rTwice X i (a) (b) (g) (d) (f) ∧ pK X (X3) i)) ∧ (((mIn (d) 0 (X3 i 27 - 1)) = true) → ((0 ≤ X3 i 27) ∧ ((((mIn (f) 0 (X3 i 27 - 1)) = false) → ((-9999) = rTwice X i (a) (b) (g) (d) (f) ∧ pK X (X3) i)) ∧ (((mIn (f) 0 (X3 i 27 - 1)) = true) → ((((mHas (X3 (i) 35) (d)) = false) → ((-9999) = rTwice X i (a) (b) (g) (d) (f) ∧ pK X (X3) i)) ∧ (((mHas (X3 (i) 35) (d)) = true) → ((((mHas (X3 (i) 35) (f)) = true) → ((0 ≤ ((6 * d) + g) ∧ ((6 * d) + g) < 90) ∧ ((0 ≤ ((6 * f) + g) ∧ ((6 * f) + g) < 90) ∧ ((rI ((X3 (i + 16) ((6 * d) + g)) - (X3 (i + 16) ((6 * f) + g)))) ∧ ((X3 (i + 16) ((6 * d) + g)) - (X3 (i + 16) ((6 * f) + g)) = rTwice X i (a) (b) (g) (d) (f) ∧ pK X (X3) i))))) ∧ (((mHas (X3 (i) 35) (f)) = false) → ((-9999) = rTwice X i (a) (b) (g) (d) (f) ∧ pK X (X3) i))))))))))))))))))
set_option maxHeartbeats 4000000 in
set_option maxRecDepth 100000 in
theorem w_X11_twice {l : Launch} {D : va_G} {cy : Nat → ClassId} {bs N : Nat} {sa : Nat → Nat} {kd len : Nat → Nat} {X Y : Nat → Int → Int} {R : Nat → Int → Option Nat} {i : Nat} (hM : zM N kd len R i) (a : Int) (ha : rI a) (b : Int) (hb : rI b) (g : Int) (hg : rI g) (d : Int) (hd : rI d) (f : Int) (hf : rI f) (hF : F_X11_twice i X Y R a b g d f) : Met l yX11_twice (.code yX11_twice cX11_twice 6 (some .int) :: zTB) (zRm 6 140) (zPc D cy bs sa N kd len X Y R [.ref (bs + (i)), .int (zI (a)), .int (zI (b)), .int (zI (g)), .int (zI (d)), .int (zI (f))]) (zQi D cy bs N kd len (fun r st => st.2.2 = R ∧ (r = rTwice X i (a) (b) (g) (d) (f) ∧ pK X (st.1) i))) 0 0 (zA bs) := by
  refine zstart (by decide) (Nat.le_of_ble_eq_true rfl) ?_
  intro p e s m args below meth c ls C hE hH hr hlk hnm hl hargs
  have hF := hF hH.2.2.1 hH.2.2.2
  have hS : va_S (zA bs) s.heap s.heap [] := va_S.rf
  have hl : lv_has ls 6 [(0, .ref (bs + (i))), (1, .int (zI (a))), (2, .int (zI (b))), (3, .int (zI (g))), (4, .int (zI (d))), (5, .int (zI (f)))] := hl
  refine lv_aload_n C.1 C.2.1 dX11_twice_0 rfl (lv_at hl 0 rfl) ?_
  refine zd_iconst C dX11_twice_1 ?_
  refine zp11_0 C hH hS (zM_n0 hM) (zM_k0 hM) q_1287 (by decide) dX11_twice_2 (fun H locs hH hS => ?_)
  obtain ⟨X1, eX1⟩ : ∃ z, z = zU X (i) 0 (0) := ⟨_, rfl⟩
  rw [← eX1] at hH
  have hF := hF X1 eX1 hH.2.2.1
  refine lv_aload_n C.1 C.2.1 dX11_twice_5 rfl (lv_at hl 0 rfl) ?_
  refine lv_iload_n C.1 C.2.1 dX11_twice_6 rfl (lv_at hl 1 rfl) ?_
  refine lv_iload_n C.1 C.2.1 dX11_twice_7 rfl (lv_at hl 2 rfl) ?_
  obtain ⟨o2, hF⟩ := hF
  refine zgoi (zrunV (As := [.int (zI (a)), .int (zI (b))]) (rest := []) C hE hH hS hl.1 (c_X11_hand (l := l) hM (a) ha (b) hb o2) k_RX11_397 ⟨Nat.le_of_ble_eq_true rfl, Nat.le_of_ble_eq_true rfl⟩ (zM_n0 hM) (zM_k0 hM) rfl rfl rfl (Nat.le_of_ble_eq_true rfl) dX11_twice_8 ⟨Nat.zero_le _, Nat.zero_le _⟩) hS (fun rq X3 Y4 Rq H locs hrq hq hH hS => ?_)
  obtain ⟨h9R, hq⟩ := hq
  dsimp only at h9R
  rw [h9R] at hH
  obtain ⟨r5, h91, hq⟩ := hq
  subst h91
  have hF := hF r5 X3 hH.2.2.1 Y4 hH.2.2.2 hq
  refine zd_ifB_eq C 64 dX11_twice_11 (by decide) (fun c6 => ?_) (fun c6 => ?_)
  · have hF := hF.1 c6
    refine zd_sipush C (by decide) dX11_twice_64 ?_
    exact zd_iret C hr hlk hH hS (by decide) (⟨rfl, hF⟩) dX11_twice_67
  · have hF := hF.2 c6
    refine lv_aload_n C.1 C.2.1 dX11_twice_14 rfl (lv_at hl 0 rfl) ?_
    refine lv_iload_n C.1 C.2.1 dX11_twice_15 rfl (lv_at hl 3 rfl) ?_
    obtain ⟨o7, hF⟩ := hF
    refine zgoi (zrunV (As := [.int (zI (g))]) (rest := []) C hE hH hS hl.1 (c_X11_isAccount (l := l) hM (g) hg o7) k_RX11_289 ⟨Nat.le_of_ble_eq_true rfl, Nat.le_of_ble_eq_true rfl⟩ (zM_n0 hM) (zM_k0 hM) rfl rfl rfl (Nat.le_of_ble_eq_true rfl) dX11_twice_16 ⟨Nat.zero_le _, Nat.zero_le _⟩) hS (fun rq Xq Yq Rq H locs hrq hq hH hS => ?_)
    obtain ⟨h91, h92⟩ := hq
    have h93 : Xq = X3 := congrArg (fun z => z.1) h92
    have h94 : Yq = Y4 := congrArg (fun z => z.2.1) h92
    have h95 : Rq = R := congrArg (fun z => z.2.2) h92
    rw [h93, h94, h95] at hH
    subst h91
    refine zd_ifB_eq C 64 dX11_twice_19 (by decide) (fun c8 => ?_) (fun c8 => ?_)
    · have hF := hF.1 c8
      refine zd_sipush C (by decide) dX11_twice_64 ?_
      exact zd_iret C hr hlk hH hS (by decide) (⟨rfl, hF⟩) dX11_twice_67
    · have hF := hF.2 c8
      refine lv_aload_n C.1 C.2.1 dX11_twice_22 rfl (lv_at hl 0 rfl) ?_
      refine lv_iload C.1 C.2.1 dX11_twice_23 (lv_at hl 4 rfl) ?_
      obtain ⟨o9, hF⟩ := hF
      refine zgoi (zrunV (As := [.int (zI (d))]) (rest := []) C hE hH hS hl.1 (c_X11_isBlock (l := l) hM (d) hd o9) k_RX11_319 ⟨Nat.le_of_ble_eq_true rfl, Nat.le_of_ble_eq_true rfl⟩ (zM_n0 hM) (zM_k0 hM) rfl rfl rfl (Nat.le_of_ble_eq_true rfl) dX11_twice_25 ⟨Nat.zero_le _, Nat.zero_le _⟩) hS (fun rq Xq Yq Rq H locs hrq hq hH hS => ?_)
      obtain ⟨h91, h92⟩ := hq
      have h93 : Xq = X3 := congrArg (fun z => z.1) h92
      have h94 : Yq = Y4 := congrArg (fun z => z.2.1) h92
      have h95 : Rq = R := congrArg (fun z => z.2.2) h92
      rw [h93, h94, h95] at hH
      subst h91
      refine zd_ifB_eq C 64 dX11_twice_28 (by decide) (fun c10 => ?_) (fun c10 => ?_)
      · have hF := hF.1 c10
        refine zd_sipush C (by decide) dX11_twice_64 ?_
        exact zd_iret C hr hlk hH hS (by decide) (⟨rfl, hF⟩) dX11_twice_67
      · have hF := hF.2 c10
        refine lv_aload_n C.1 C.2.1 dX11_twice_31 rfl (lv_at hl 0 rfl) ?_
        refine lv_iload C.1 C.2.1 dX11_twice_32 (lv_at hl 5 rfl) ?_
        obtain ⟨o11, hF⟩ := hF
        refine zgoi (zrunV (As := [.int (zI (f))]) (rest := []) C hE hH hS hl.1 (c_X11_isBlock (l := l) hM (f) hf o11) k_RX11_319 ⟨Nat.le_of_ble_eq_true rfl, Nat.le_of_ble_eq_true rfl⟩ (zM_n0 hM) (zM_k0 hM) rfl rfl rfl (Nat.le_of_ble_eq_true rfl) dX11_twice_34 ⟨Nat.zero_le _, Nat.zero_le _⟩) hS (fun rq Xq Yq Rq H locs hrq hq hH hS => ?_)
        obtain ⟨h91, h92⟩ := hq
        have h93 : Xq = X3 := congrArg (fun z => z.1) h92
        have h94 : Yq = Y4 := congrArg (fun z => z.2.1) h92
        have h95 : Rq = R := congrArg (fun z => z.2.2) h92
        rw [h93, h94, h95] at hH
        subst h91
        refine zd_ifB_eq C 64 dX11_twice_37 (by decide) (fun c12 => ?_) (fun c12 => ?_)
        · have hF := hF.1 c12
          refine zd_sipush C (by decide) dX11_twice_64 ?_
          exact zd_iret C hr hlk hH hS (by decide) (⟨rfl, hF⟩) dX11_twice_67
        · have hF := hF.2 c12
          refine lv_aload_n C.1 C.2.1 dX11_twice_40 rfl (lv_at hl 0 rfl) ?_
          refine zg11_35 C hH (zM_n0 hM) (zM_k0 hM) q_1322 dX11_twice_41 ?_
          refine lv_iload C.1 C.2.1 dX11_twice_44 (lv_at hl 4 rfl) ?_
          refine zgoi (zrunS (As := [.int (zI (X3 (i) 35)), .int (zI (d))]) (rest := []) C hE hH hS hl.1 (c_X11_has (l := l)  (X3 (i) 35) (hH.2.2.1 _ _) (d) hd) k_RX11_92 ⟨Nat.le_of_ble_eq_true rfl, Nat.le_of_ble_eq_true rfl⟩ rfl (Nat.le_of_ble_eq_true rfl) dX11_twice_46 ⟨Nat.zero_le _, Nat.zero_le _⟩) hS (fun rq Xq Yq Rq H locs hrq hq hH hS => ?_)
          obtain ⟨h91, h92⟩ := hq
          have h93 : Xq = X3 := congrArg (fun z => z.1) h92
          have h94 : Yq = Y4 := congrArg (fun z => z.2.1) h92
          have h95 : Rq = R := congrArg (fun z => z.2.2) h92
          rw [h93, h94, h95] at hH
          subst h91
          refine zd_ifB_eq C 64 dX11_twice_49 (by decide) (fun c13 => ?_) (fun c13 => ?_)
          · have hF := hF.1 c13
            refine zd_sipush C (by decide) dX11_twice_64 ?_
            exact zd_iret C hr hlk hH hS (by decide) (⟨rfl, hF⟩) dX11_twice_67
          · have hF := hF.2 c13
            refine lv_aload_n C.1 C.2.1 dX11_twice_52 rfl (lv_at hl 0 rfl) ?_
            refine zg11_35 C hH (zM_n0 hM) (zM_k0 hM) q_1322 dX11_twice_53 ?_
            refine lv_iload C.1 C.2.1 dX11_twice_56 (lv_at hl 5 rfl) ?_
            refine zgoi (zrunS (As := [.int (zI (X3 (i) 35)), .int (zI (f))]) (rest := []) C hE hH hS hl.1 (c_X11_has (l := l)  (X3 (i) 35) (hH.2.2.1 _ _) (f) hf) k_RX11_92 ⟨Nat.le_of_ble_eq_true rfl, Nat.le_of_ble_eq_true rfl⟩ rfl (Nat.le_of_ble_eq_true rfl) dX11_twice_58 ⟨Nat.zero_le _, Nat.zero_le _⟩) hS (fun rq Xq Yq Rq H locs hrq hq hH hS => ?_)
            obtain ⟨h91, h92⟩ := hq
            have h93 : Xq = X3 := congrArg (fun z => z.1) h92
            have h94 : Yq = Y4 := congrArg (fun z => z.2.1) h92
            have h95 : Rq = R := congrArg (fun z => z.2.2) h92
            rw [h93, h94, h95] at hH
            subst h91
            refine zd_ifB_ne C 68 dX11_twice_61 (by decide) (fun c14 => ?_) (fun c14 => ?_)
            · have hF := hF.1 c14
              refine lv_aload_n C.1 C.2.1 dX11_twice_68 rfl (lv_at hl 0 rfl) ?_
              refine zg11_34 C hH (zM_n0 hM) (zM_k0 hM) q_1321 (zM_r16 hM) dX11_twice_69 ?_
              refine zd_bipush C (by decide) dX11_twice_72 ?_
              refine lv_iload C.1 C.2.1 dX11_twice_74 (lv_at hl 4 rfl) ?_
              refine zd_imul C dX11_twice_76 ?_
              refine lv_iload_n C.1 C.2.1 dX11_twice_77 rfl (lv_at hl 3 rfl) ?_
              refine zd_iadd C dX11_twice_78 ?_
              obtain ⟨o15, hF⟩ := hF
              refine zd_iald C hH (zM_n16 hM) (zM_k16 hM) o15.1 (by rw [zM_l16 hM]; exact o15.2) (by rw [zM_l16 hM]; decide) dX11_twice_79 ?_
              refine lv_aload_n C.1 C.2.1 dX11_twice_80 rfl (lv_at hl 0 rfl) ?_
              refine zg11_34 C hH (zM_n0 hM) (zM_k0 hM) q_1321 (zM_r16 hM) dX11_twice_81 ?_
              refine zd_bipush C (by decide) dX11_twice_84 ?_
              refine lv_iload C.1 C.2.1 dX11_twice_86 (lv_at hl 5 rfl) ?_
              refine zd_imul C dX11_twice_88 ?_
              refine lv_iload_n C.1 C.2.1 dX11_twice_89 rfl (lv_at hl 3 rfl) ?_
              refine zd_iadd C dX11_twice_90 ?_
              obtain ⟨o16, hF⟩ := hF
              refine zd_iald C hH (zM_n16 hM) (zM_k16 hM) o16.1 (by rw [zM_l16 hM]; exact o16.2) (by rw [zM_l16 hM]; decide) dX11_twice_91 ?_
              refine zd_isub C dX11_twice_92 ?_
              obtain ⟨o17, hF⟩ := hF
              exact zd_iret C hr hlk hH hS o17 (⟨rfl, hF⟩) dX11_twice_93
            · have hF := hF.2 c14
              refine zd_sipush C (by decide) dX11_twice_64 ?_
              exact zd_iret C hr hlk hH hS (by decide) (⟨rfl, hF⟩) dX11_twice_67
theorem v_X11_twice {X Y : Nat → Int → Int} {R : Nat → Int → Option Nat} {i : Nat} (a : Int) (ha : rI a) (b : Int) (hb : rI b) (g : Int) (hg : rI g) (d : Int) (hd : rI d) (f : Int) (hf : rI f) (hp : oTN X i) : F_X11_twice i X Y R a b g d f := by
  unfold F_X11_twice
  intro hX hY X1 e1 xr1
  have hT := hp
  have o1 : ∀ z, z ≠ i → X1 z = X z := fun z h => by rw [e1, zU_o h]
  have em : ∀ s k, mIs i X1 s k = mIs i X s k := fun s k => by
    unfold mIs
    rw [o1 _ (by omega)]
  refine ⟨oTN_k (o1 _ (by omega)) (o1 _ (by omega)) (o1 _ (by omega)) hT, fun r5 X3 xr3 Y4 yr4 h5 => ?_⟩
  obtain ⟨e5, hk, h5⟩ := h5
  rw [em, em] at e5
  obtain ⟨p3, hz⟩ := hd_ok (n := a) (c := b) e1 hk
  refine ⟨fun c => ⟨by unfold rTwice rOk; rw [← e5, c]; rfl, p3⟩, fun c => ?_⟩
  rw [c] at e5
  obtain ⟨h9, h⟩ := h5 c
  obtain ⟨z, h27⟩ := hz h9
  have hb := h.1.2.2.1
  have hA := h.1.2.1
  have hBs := h.1.2.2.2
  have en : X3 i 27 - 1 = qN X i b := by
    rw [h27]
    show 1 + X (i + 7) (183 * b) - 1 = X (i + 7) (183 * b)
    omega
  have h0 : 0 ≤ X3 i 27 := by omega
  have h35 := h.2.2.2.1
  have h26 : X3 i 26 = X (i + 6) (13 * a + 6) := z.1.2.2.2.2.1.trans hZ_26
  have hx : ∀ k, mIn k 0 (qN X i b) = true → (0 ≤ k ∧ k < X3 i 27) ∧ mHas (X3 i 35) k = sdf (hZ X i a b 0) i k.toNat := fun k hk => by
    have hm := mIn_t.mp hk
    have h2 : k ≤ X (i + 7) (183 * b) := hm.2
    have h3 : k < X3 i 27 := by rw [h27]; show k < 1 + X (i + 7) (183 * b); omega
    refine ⟨⟨hm.1, h3⟩, ?_⟩
    rw [← sdf_s z, h35]
    have q := bS_has (sdf X3 i) (n := (X3 i 27).toNat) (k := k.toNat) (by omega) (by omega)
    rw [show ((k.toNat : Nat) : Int) = k by omega] at q
    exact q
  have ld : ∀ k w, mIn k 0 (qN X i b) = true → mHas (X3 i 35) k = true → 0 ≤ w → w < 6 → X3 (i + 16) (6 * k + w) = rLd (hZ X i a b 0) i k.toNat w ∧ 0 ≤ X3 (i + 16) (6 * k + w) ∧ X3 (i + 16) (6 * k + w) ≤ 100000 := fun k w hk hs w0 w1 => by
    obtain ⟨⟨k0, k1⟩, k2⟩ := hx k hk
    rw [k2, ← sdf_s z] at hs
    have q := led_k h (k := k.toNat) (a := w) (by omega) hs w0 w1
    rw [show ((k.toNat : Nat) : Int) = k by omega] at q
    unfold sdf at hs
    obtain ⟨M, hM⟩ := Option.isSome_iff_exists.mp hs
    have b := rS_b hA hBs k.toNat (by omega) M hM w w0 w1
    have e : rLd X3 i k.toNat w = M w := by
      unfold rLd
      rw [hM]
      rfl
    rw [q, ← rLd_s z, e]
    exact ⟨rfl, b.1, by omega⟩
  rw [en]
  have h60 := hA.1
  rw [h26] at h60 ⊢
  refine ⟨h60.1, fun c1 => ⟨by unfold rTwice rOk; rw [← e5, c1]; rfl, p3⟩, fun c1 => ⟨h0, fun c2 => ⟨by unfold rTwice rOk; rw [← e5, c1, c2]; rfl, p3⟩, fun c2 => ⟨h0, fun c3 => ⟨by unfold rTwice rOk; rw [← e5, c1, c2, c3]; rfl, p3⟩, fun c3 => ⟨fun c4 => ⟨?_, p3⟩, fun c4 => ⟨fun c5 => ?_, fun c5 => ⟨?_, p3⟩⟩⟩⟩⟩⟩
  · unfold rTwice rOk
    rw [← e5, c1, c2, c3, ← (hx d c2).2, c4]
    rfl
  · have hm := mIn_t.mp c1
    have l1 := ld d g c2 c4 hm.1 (by omega)
    have l2 := ld f g c3 c5 hm.1 (by omega)
    have x1 := (hx d c2).1
    have x2 := (hx f c3).1
    refine ⟨⟨by omega, by omega⟩, ⟨by omega, by omega⟩, ⟨by omega, by omega⟩, ?_, p3⟩
    unfold rTwice rOk
    rw [← e5, c1, c2, c3, ← (hx d c2).2, ← (hx f c3).2, c4, c5, l1.1, l2.1]
    rfl
  · unfold rTwice rOk
    rw [← e5, c1, c2, c3, ← (hx d c2).2, ← (hx f c3).2, c4, c5]
    rfl
theorem c_X11_twice {l : Launch} {D : va_G} {cy : Nat → ClassId} {bs N : Nat} {sa : Nat → Nat} {kd len : Nat → Nat} {X Y : Nat → Int → Int} {R : Nat → Int → Option Nat} {i : Nat} (hM : zM N kd len R i) (a : Int) (ha : rI a) (b : Int) (hb : rI b) (g : Int) (hg : rI g) (d : Int) (hd : rI d) (f : Int) (hf : rI f) (hp : oTN X i) : Met l yX11_twice (.code yX11_twice cX11_twice 6 (some .int) :: zTB) (zRm 6 140) (zPc D cy bs sa N kd len X Y R [.ref (bs + (i)), .int (zI (a)), .int (zI (b)), .int (zI (g)), .int (zI (d)), .int (zI (f))]) (zQi D cy bs N kd len (fun r st => st.2.2 = R ∧ (r = rTwice X i (a) (b) (g) (d) (f) ∧ pK X (st.1) i))) 0 0 (zA bs) := w_X11_twice hM a ha b hb g hg d hd f hf (v_X11_twice a ha b hb g hg d hd f hf hp)
