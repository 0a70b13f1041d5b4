/-! STORED -/
def stP (X X1 : Nat → Int → Int) (i j : Nat) (n k : Int) : Prop := (∀ z, z ≠ j → X1 z = X z) ∧ (∀ y, 0 ≤ y → y < n → X1 j (n * k + y) = X (i + 11) y) ∧ ∀ y, (y < n * k ∨ n * k + n ≤ y) → X1 j y = X j y
def wdT (of : Int) : Int := if of = 0 then 13 else if of = 1 then 183 else if of = 2 then 81 else if of = 3 then 17 else 25
abbrev cX11_store : ByteArray := prog_13_method_33_code
def yX11_store : MethodName := ⟨RX11, "store", "([III)V"⟩
theorem dX11_store_0 : decode cX11_store 0 = .ok (.iconst 0, 1) := by decide +kernel
theorem dX11_store_1 : decode cX11_store 1 = .ok (.istore 4, 2) := by decide +kernel
theorem dX11_store_3 : decode cX11_store 3 = .ok (.iload 4, 2) := by decide +kernel
theorem dX11_store_5 : decode cX11_store 5 = .ok (.iload_n 2, 1) := by decide +kernel
theorem dX11_store_6 : decode cX11_store 6 = .ok (.if_icmp .ge 24, 3) := by decide +kernel
theorem dX11_store_9 : decode cX11_store 9 = .ok (.aload_n 1, 1) := by decide +kernel
theorem dX11_store_10 : decode cX11_store 10 = .ok (.iload_n 2, 1) := by decide +kernel
theorem dX11_store_11 : decode cX11_store 11 = .ok (.iload_n 3, 1) := by decide +kernel
theorem dX11_store_12 : decode cX11_store 12 = .ok (.imul, 1) := by decide +kernel
theorem dX11_store_13 : decode cX11_store 13 = .ok (.iload 4, 2) := by decide +kernel
theorem dX11_store_15 : decode cX11_store 15 = .ok (.iadd, 1) := by decide +kernel
theorem dX11_store_16 : decode cX11_store 16 = .ok (.aload_n 0, 1) := by decide +kernel
theorem dX11_store_17 : decode cX11_store 17 = .ok (.getfield 41, 3) := by decide +kernel
theorem dX11_store_20 : decode cX11_store 20 = .ok (.iload 4, 2) := by decide +kernel
theorem dX11_store_22 : decode cX11_store 22 = .ok (.iaload, 1) := by decide +kernel
theorem dX11_store_23 : decode cX11_store 23 = .ok (.iastore, 1) := by decide +kernel
theorem dX11_store_24 : decode cX11_store 24 = .ok (.iinc 4 1, 3) := by decide +kernel
theorem dX11_store_27 : decode cX11_store 27 = .ok (.goto (-24), 3) := by decide +kernel
theorem dX11_store_30 : decode cX11_store 30 = .ok (.return_, 1) := by decide +kernel
def F_X11_store (i j nn : Nat) (X Y : Nat → Int → Int) (R : Nat → Int → Option Nat) (b : Int) (g : Int) : Prop := (∀ i j, rI (X i j)) → (∀ i j, rL (Y i j)) → ((0 ≤ ((0 : Int)) ∧ (((0 : Int)) ≤ b ∨ ((0 : Int)) = 0)) ∧ (∀ zz, zz ≠ j → X zz = X zz) ∧ (∀ y, 0 ≤ y → y < ((0 : Int)) → X j (b * g + y) = X (i + 11) y) ∧ ∀ y, (y < b * g ∨ b * g + ((0 : Int)) ≤ y) → X j y = X j y) ∧ (∀ (k : Int) (X2 : Nat → Int → Int), rI k → (∀ i j, rI (X2 i j)) → ((0 ≤ (k) ∧ ((k) ≤ b ∨ (k) = 0)) ∧ (∀ zz, zz ≠ j → X2 zz = X zz) ∧ (∀ y, 0 ≤ y → y < (k) → X2 j (b * g + y) = X (i + 11) y) ∧ ∀ y, (y < b * g ∨ b * g + (k) ≤ y) → X2 j y = X j y) → (((b ≤ k) → (stP X (X2) i (j) (b) (g))) ∧ ((¬ (b ≤ k)) → ((0 ≤ k ∧ k < 183) ∧ ((0 ≤ ((b * g) + k) ∧ ((b * g) + k) < ((nn : Nat) : Int)) ∧ (∀ X6 : Nat → Int → Int, X6 = zU X2 (j) ((b * g) + k) (X2 (i + 11) (k)) → (∀ i j, rI (X6 i j)) → ((rI (k + 1)) ∧ ((0 ≤ (k + 1) ∧ ((k + 1) ≤ b ∨ (k + 1) = 0)) ∧ (∀ zz, zz ≠ j → X6 zz = X zz) ∧ (∀ y, 0 ≤ y → y < (k + 1) → X6 j (b * g + y) = X (i + 11) y) ∧ ∀ y, (y < b * g ∨ b * g + (k + 1) ≤ y) → X6 j y = X j y) ∧ (((b - (k + 1)).toNat) < ((b - (k)).toNat)))))))))
set_option maxHeartbeats 4000000 in
set_option maxRecDepth 100000 in
theorem w_X11_store {l : Launch} {D : va_G} {cy : Nat → ClassId} {bs N : Nat} {sa : Nat → Nat} {kd len : Nat → Nat} {X Y : Nat → Int → Int} {R : Nat → Int → Option Nat} {i : Nat} (hM : zM N kd len R i) {j nn : Nat} (jn : j < N) (jk : kd j = 13) (jl : len j = nn) (js : len j < 2147483648) (b : Int) (hb : rI b) (g : Int) (hg : rI g) (hF : F_X11_store i j nn X Y R b g) : Met l yX11_store (.code yX11_store cX11_store 5 none :: zTB) (zRm 0 0) (zPc D cy bs sa N kd len X Y R [.ref (bs + (i)), .ref (bs + (j)), .int (zI (b)), .int (zI (g))]) (zQv D cy bs N kd len (fun st => st.2.1 = Y ∧ st.2.2 = R ∧ (stP X (st.1) i (j) (b) (g)))) 0 0 (zA bs) := by
  refine zstart (by decide) (Nat.le_of_ble_eq_true rfl) ?_
  intro p e s m args below meth c ls C hE hH hr hlk hnm hl hargs
  have hF := hF hH.2.2.1 hH.2.2.2
  have hS : va_S (zA bs) s.heap s.heap [] := va_S.rf
  have hl : lv_has ls 5 [(0, .ref (bs + (i))), (1, .ref (bs + (j))), (2, .int (zI (b))), (3, .int (zI (g)))] := hl
  refine zd_iconst C dX11_store_0 ?_
  refine lv_istore (lv' := [(4, .int (zI (0))), (0, .ref (bs + (i))), (1, .ref (bs + (j))), (2, .int (zI (b))), (3, .int (zI (g)))]) C.1 C.2.1 dX11_store_1 hl (by decide) rfl (fun ls hl => ?_)
  obtain ⟨hI1, hF⟩ := hF
  have L1 : ∀ (fu : Nat) (k : Int) (X2 : Nat → Int → Int), rI k → ((0 ≤ (k) ∧ ((k) ≤ b ∨ (k) = 0)) ∧ (∀ zz, zz ≠ j → X2 zz = X zz) ∧ (∀ y, 0 ≤ y → y < (k) → X2 j (b * g + y) = X (i + 11) y) ∧ ∀ y, (y < b * g ∨ b * g + (k) ≤ y) → X2 j y = X j y) → ((b - (k)).toNat) < fu → ∀ (H : Heap) (locs : List Loc) (ls : Array Slot), zH D cy bs N kd len X2 Y R H → va_S (zA bs) s.heap H locs → lv_has ls 5 [(4, .int (zI (k))), (0, .ref (bs + (i))), (1, .ref (bs + (j))), (2, .int (zI (b))), (3, .int (zI (g)))] → W p l e (zRm 0 0) s m args below meth c H locs 0 0 (MQ below (zQv D cy bs N kd len (fun st => st.2.1 = Y ∧ st.2.2 = R ∧ (stP X (st.1) i (j) (b) (g)))) args s 0 0 (zA bs)) (F0 m 3 ls []) := by
    intro fu
    induction fu with
    | zero => intro k X2 _ _ hmu; exact absurd hmu (Nat.not_lt_zero _)
    | succ fu ih1 =>
      intro k X2 hk hI hmu1 H locs ls hH hS hl
      have hF := hF k X2 hk hH.2.2.1 hI
      refine lv_iload C.1 C.2.1 dX11_store_3 (lv_at hl 0 rfl) ?_
      refine lv_iload_n C.1 C.2.1 dX11_store_5 rfl (lv_at hl 3 rfl) ?_
      refine zd_icmp_ge C hk hb 30 dX11_store_6 (by decide) (fun c3 => ?_) (fun c3 => ?_)
      · have hF := hF.1 c3
        exact zd_vret C hr hlk hH hS (⟨rfl, rfl, hF⟩) dX11_store_30
      · have hF := hF.2 c3
        refine lv_aload_n C.1 C.2.1 dX11_store_9 rfl (lv_at hl 2 rfl) ?_
        refine lv_iload_n C.1 C.2.1 dX11_store_10 rfl (lv_at hl 3 rfl) ?_
        refine lv_iload_n C.1 C.2.1 dX11_store_11 rfl (lv_at hl 4 rfl) ?_
        refine zd_imul C dX11_store_12 ?_
        refine lv_iload C.1 C.2.1 dX11_store_13 (lv_at hl 0 rfl) ?_
        refine zd_iadd C dX11_store_15 ?_
        refine lv_aload_n C.1 C.2.1 dX11_store_16 rfl (lv_at hl 1 rfl) ?_
        refine zg11_20 C hH (zM_n0 hM) (zM_k0 hM) q_1307 (zM_r11 hM) dX11_store_17 ?_
        refine lv_iload C.1 C.2.1 dX11_store_20 (lv_at hl 0 rfl) ?_
        obtain ⟨o4, hF⟩ := hF
        refine zd_iald C hH (zM_n11 hM) (zM_k11 hM) o4.1 (by rw [zM_l11 hM]; exact o4.2) (by rw [zM_l11 hM]; decide) dX11_store_22 ?_
        obtain ⟨o5, hF⟩ := hF
        refine zd_iast C hH hS jn jk o5.1 (by rw [jl]; exact o5.2) js (hH.2.2.1 _ _) dX11_store_23 (fun H locs hH hS => ?_)
        obtain ⟨X6, eX6⟩ : ∃ z, z = zU X2 (j) ((b * g) + k) (X2 (i + 11) (k)) := ⟨_, rfl⟩
        rw [← eX6] at hH
        have hF := hF X6 eX6 hH.2.2.1
        refine zd_iinc (k := 0) (lv' := [(4, .int (zI (k + 1))), (0, .ref (bs + (i))), (1, .ref (bs + (j))), (2, .int (zI (b))), (3, .int (zI (g)))]) C hl rfl dX11_store_24 (by decide) rfl (fun ls hl => ?_)
        refine lv_goto (tgt := 3) C.1 C.2.1 dX11_store_27 (by decide) ?_
        obtain ⟨o7, hF⟩ := hF
        exact ih1 (k + 1) X6 o7 hF.1 (Nat.lt_of_lt_of_le hF.2 (Nat.le_of_lt_succ hmu1)) _ _ _ hH hS (lv_sub hl [0, 1, 2, 3, 4] rfl)
  exact L1 (((b - ((0 : Int))).toNat) + 1) ((0 : Int)) X (by decide) hI1 (Nat.lt_succ_self _) _ _ _ hH hS (lv_sub hl [0, 1, 2, 3, 4] rfl)
theorem v_X11_store {X Y : Nat → Int → Int} {R : Nat → Int → Option Nat} {i j nn : Nat} (b : Int) (hb : rI b) (g : Int) (hg : rI g) (hp : (0 ≤ b ∧ b ≤ 183 ∧ 0 ≤ b * (g)) ∧ (b * (g) + b ≤ ((nn : Nat) : Int) ∧ ((nn : Nat) : Int) ≤ 100000) ∧ j ≠ i + 11) : F_X11_store i j nn X Y R b g := by
  unfold F_X11_store
  intro hX hY
  obtain ⟨p0, p1, p2⟩ := hp
  refine ⟨?_, ?_⟩
  · exact ⟨⟨by decide, Or.inr rfl⟩, fun _ _ => rfl, fun y y0 y1 => by omega, fun _ _ => rfl⟩
  intro k X2
  intro _
  intro rX2
  intro h1
  obtain ⟨hk, hz, hr, ho⟩ := h1
  refine ⟨?_, ?_⟩
  · intro c1
    exact ⟨hz, fun y y0 y1 => hr y y0 (by omega), fun y hy => ho y (by omega)⟩
  intro c2
  refine ⟨?_, ?_⟩
  · first | omega | exact ⟨by omega, by omega⟩ | decide | assumption | exact ⟨by omega, by omega, by omega⟩ | exact ⟨by decide, by decide⟩
  refine ⟨?_, ?_⟩
  · first | omega | exact ⟨by omega, by omega⟩ | decide | assumption | exact ⟨by omega, by omega, by omega⟩ | exact ⟨by decide, by decide⟩
  intro X6
  intro eX6
  intro rX6
  refine ⟨?_, ?_⟩
  · first | omega | exact ⟨by omega, by omega⟩ | decide | assumption | exact ⟨by omega, by omega, by omega⟩ | exact ⟨by decide, by decide⟩
  refine ⟨?_, ?_⟩
  · refine ⟨⟨by omega, by omega⟩, fun zz hzz => by rw [eX6, zU_o hzz]; exact hz zz hzz, fun y y0 y1 => ?_, fun y hy => by rw [eX6, zU_n (by omega)]; exact ho y (by omega)⟩
    rw [eX6]
    by_cases e : y = k
    · rw [e, zU_s, hz _ (by omega)]
    · rw [zU_n (by omega)]
      exact hr y y0 (by omega)
  first | omega | exact ⟨by omega, by omega⟩ | decide | assumption | exact ⟨by omega, by omega, by omega⟩ | exact ⟨by decide, by decide⟩
theorem c_X11_store {l : Launch} {D : va_G} {cy : Nat → ClassId} {bs N : Nat} {sa : Nat → Nat} {kd len : Nat → Nat} {X Y : Nat → Int → Int} {R : Nat → Int → Option Nat} {i : Nat} (hM : zM N kd len R i) {j nn : Nat} (jn : j < N) (jk : kd j = 13) (jl : len j = nn) (js : len j < 2147483648) (b : Int) (hb : rI b) (g : Int) (hg : rI g) (hp : (0 ≤ b ∧ b ≤ 183 ∧ 0 ≤ b * (g)) ∧ (b * (g) + b ≤ ((nn : Nat) : Int) ∧ ((nn : Nat) : Int) ≤ 100000) ∧ j ≠ i + 11) : Met l yX11_store (.code yX11_store cX11_store 5 none :: zTB) (zRm 0 0) (zPc D cy bs sa N kd len X Y R [.ref (bs + (i)), .ref (bs + (j)), .int (zI (b)), .int (zI (g))]) (zQv D cy bs N kd len (fun st => st.2.1 = Y ∧ st.2.2 = R ∧ (stP X (st.1) i (j) (b) (g)))) 0 0 (zA bs) := w_X11_store hM jn jk jl js b hb g hg (v_X11_store b hb g hg hp)
abbrev cX11_storeOf : ByteArray := prog_13_method_34_code
def yX11_storeOf : MethodName := ⟨RX11, "storeOf", "(II)V"⟩
theorem dX11_storeOf_0 : decode cX11_storeOf 0 = .ok (.iload_n 1, 1) := by decide +kernel
theorem dX11_storeOf_1 : decode cX11_storeOf 1 = .ok (.tableswitch 88 0 3 #[31, 45, 60, 74], 31) := by decide +kernel
theorem dX11_storeOf_32 : decode cX11_storeOf 32 = .ok (.aload_n 0, 1) := by decide +kernel
theorem dX11_storeOf_33 : decode cX11_storeOf 33 = .ok (.aload_n 0, 1) := by decide +kernel
theorem dX11_storeOf_34 : decode cX11_storeOf 34 = .ok (.getfield 26, 3) := by decide +kernel
theorem dX11_storeOf_37 : decode cX11_storeOf 37 = .ok (.bipush 13, 2) := by decide +kernel
theorem dX11_storeOf_39 : decode cX11_storeOf 39 = .ok (.iload_n 2, 1) := by decide +kernel
theorem dX11_storeOf_40 : decode cX11_storeOf 40 = .ok (.invokevirtual 236, 3) := by decide +kernel
theorem dX11_storeOf_43 : decode cX11_storeOf 43 = .ok (.goto 57, 3) := by decide +kernel
theorem dX11_storeOf_46 : decode cX11_storeOf 46 = .ok (.aload_n 0, 1) := by decide +kernel
theorem dX11_storeOf_47 : decode cX11_storeOf 47 = .ok (.aload_n 0, 1) := by decide +kernel
theorem dX11_storeOf_48 : decode cX11_storeOf 48 = .ok (.getfield 29, 3) := by decide +kernel
theorem dX11_storeOf_51 : decode cX11_storeOf 51 = .ok (.sipush 183, 3) := by decide +kernel
theorem dX11_storeOf_54 : decode cX11_storeOf 54 = .ok (.iload_n 2, 1) := by decide +kernel
theorem dX11_storeOf_55 : decode cX11_storeOf 55 = .ok (.invokevirtual 236, 3) := by decide +kernel
theorem dX11_storeOf_58 : decode cX11_storeOf 58 = .ok (.goto 42, 3) := by decide +kernel
theorem dX11_storeOf_61 : decode cX11_storeOf 61 = .ok (.aload_n 0, 1) := by decide +kernel
theorem dX11_storeOf_62 : decode cX11_storeOf 62 = .ok (.aload_n 0, 1) := by decide +kernel
theorem dX11_storeOf_63 : decode cX11_storeOf 63 = .ok (.getfield 32, 3) := by decide +kernel
theorem dX11_storeOf_66 : decode cX11_storeOf 66 = .ok (.bipush 81, 2) := by decide +kernel
theorem dX11_storeOf_68 : decode cX11_storeOf 68 = .ok (.iload_n 2, 1) := by decide +kernel
theorem dX11_storeOf_69 : decode cX11_storeOf 69 = .ok (.invokevirtual 236, 3) := by decide +kernel
theorem dX11_storeOf_72 : decode cX11_storeOf 72 = .ok (.goto 28, 3) := by decide +kernel
theorem dX11_storeOf_75 : decode cX11_storeOf 75 = .ok (.aload_n 0, 1) := by decide +kernel
theorem dX11_storeOf_76 : decode cX11_storeOf 76 = .ok (.aload_n 0, 1) := by decide +kernel
theorem dX11_storeOf_77 : decode cX11_storeOf 77 = .ok (.getfield 35, 3) := by decide +kernel
theorem dX11_storeOf_80 : decode cX11_storeOf 80 = .ok (.bipush 17, 2) := by decide +kernel
theorem dX11_storeOf_82 : decode cX11_storeOf 82 = .ok (.iload_n 2, 1) := by decide +kernel
theorem dX11_storeOf_83 : decode cX11_storeOf 83 = .ok (.invokevirtual 236, 3) := by decide +kernel
theorem dX11_storeOf_86 : decode cX11_storeOf 86 = .ok (.goto 14, 3) := by decide +kernel
theorem dX11_storeOf_89 : decode cX11_storeOf 89 = .ok (.aload_n 0, 1) := by decide +kernel
theorem dX11_storeOf_90 : decode cX11_storeOf 90 = .ok (.aload_n 0, 1) := by decide +kernel
theorem dX11_storeOf_91 : decode cX11_storeOf 91 = .ok (.getfield 38, 3) := by decide +kernel
theorem dX11_storeOf_94 : decode cX11_storeOf 94 = .ok (.bipush 25, 2) := by decide +kernel
theorem dX11_storeOf_96 : decode cX11_storeOf 96 = .ok (.iload_n 2, 1) := by decide +kernel
theorem dX11_storeOf_97 : decode cX11_storeOf 97 = .ok (.invokevirtual 236, 3) := by decide +kernel
theorem dX11_storeOf_100 : decode cX11_storeOf 100 = .ok (.return_, 1) := by decide +kernel
theorem q_1605 : Cond.methodLink RX11 236 yX11_store ∈ zTB := zmem 1605 (by decide +kernel) rfl
theorem q_1607 : Cond.instanceMethod yX11_store ∈ zTB := zmem 1607 (by decide +kernel) rfl
theorem q_55 : Cond.selects RX11 yX11_store yX11_store ∈ zTB := zmem 55 (by decide +kernel) rfl
theorem q_1608 : Cond.code yX11_store cX11_store 5 none ∈ zTB := zmem 1608 (by decide +kernel) rfl
theorem k_RX11_236 : zLv RX11 236 RX11 yX11_store cX11_store 5 none 3 := ⟨⟨q_1605, q_1607, q_55, q_140, q_1608⟩, rfl, ⟨by decide, by decide⟩, by decide +kernel⟩
def F_X11_storeOf (i : Nat) (X Y : Nat → Int → Int) (R : Nat → Int → Option Nat) (a : Int) (b : Int) : Prop := (∀ i j, rI (X i j)) → (∀ i j, rL (Y i j)) → (a = 0 → (((0 ≤ (13 : Int) ∧ (13 : Int) ≤ 183 ∧ 0 ≤ (13 : Int) * (b)) ∧ ((13 : Int) * (b) + (13 : Int) ≤ ((104 : Nat) : Int) ∧ ((104 : Nat) : Int) ≤ 100000) ∧ i + 6 ≠ i + 11) ∧ (∀ X3 : Nat → Int → Int, (∀ i j, rI (X3 i j)) → (stP X (X3) i (i + 6) ((13 : Int)) (b)) → (stP X (X3) i (i + 6 + (a).toNat) (wdT (a)) (b))))) ∧ (a = 1 → (((0 ≤ (183 : Int) ∧ (183 : Int) ≤ 183 ∧ 0 ≤ (183 : Int) * (b)) ∧ ((183 : Int) * (b) + (183 : Int) ≤ ((1464 : Nat) : Int) ∧ ((1464 : Nat) : Int) ≤ 100000) ∧ i + 7 ≠ i + 11) ∧ (∀ X5 : Nat → Int → Int, (∀ i j, rI (X5 i j)) → (stP X (X5) i (i + 7) ((183 : Int)) (b)) → (stP X (X5) i (i + 6 + (a).toNat) (wdT (a)) (b))))) ∧ (a = 2 → (((0 ≤ (81 : Int) ∧ (81 : Int) ≤ 183 ∧ 0 ≤ (81 : Int) * (b)) ∧ ((81 : Int) * (b) + (81 : Int) ≤ ((648 : Nat) : Int) ∧ ((648 : Nat) : Int) ≤ 100000) ∧ i + 8 ≠ i + 11) ∧ (∀ X7 : Nat → Int → Int, (∀ i j, rI (X7 i j)) → (stP X (X7) i (i + 8) ((81 : Int)) (b)) → (stP X (X7) i (i + 6 + (a).toNat) (wdT (a)) (b))))) ∧ (a = 3 → (((0 ≤ (17 : Int) ∧ (17 : Int) ≤ 183 ∧ 0 ≤ (17 : Int) * (b)) ∧ ((17 : Int) * (b) + (17 : Int) ≤ ((136 : Nat) : Int) ∧ ((136 : Nat) : Int) ≤ 100000) ∧ i + 9 ≠ i + 11) ∧ (∀ X9 : Nat → Int → Int, (∀ i j, rI (X9 i j)) → (stP X (X9) i (i + 9) ((17 : Int)) (b)) → (stP X (X9) i (i + 6 + (a).toNat) (wdT (a)) (b))))) ∧ ((a < 0 ∨ 3 < a) → (((0 ≤ (25 : Int) ∧ (25 : Int) ≤ 183 ∧ 0 ≤ (25 : Int) * (b)) ∧ ((25 : Int) * (b) + (25 : Int) ≤ ((200 : Nat) : Int) ∧ ((200 : Nat) : Int) ≤ 100000) ∧ i + 10 ≠ i + 11) ∧ (∀ X11 : Nat → Int → Int, (∀ i j, rI (X11 i j)) → (stP X (X11) i (i + 10) ((25 : Int)) (b)) → (stP X (X11) i (i + 6 + (a).toNat) (wdT (a)) (b)))))
set_option maxHeartbeats 4000000 in
set_option maxRecDepth 100000 in
theorem w_X11_storeOf {l : Launch} {D : va_G} {cy : Nat → ClassId} {bs N : Nat} {sa : Nat → Nat} {kd len : Nat → Nat} {X Y : Nat → Int → Int} {R : Nat → Int → Option Nat} {i : Nat} (hM : zM N kd len R i) (a : Int) (ha : rI a) (b : Int) (hb : rI b) (hF : F_X11_storeOf i X Y R a b) : Met l yX11_storeOf (.code yX11_storeOf cX11_storeOf 3 none :: zTB) (zRm 1 24) (zPc D cy bs sa N kd len X Y R [.ref (bs + (i)), .int (zI (a)), .int (zI (b))]) (zQv D cy bs N kd len (fun st => st.2.1 = Y ∧ st.2.2 = R ∧ (stP X (st.1) i (i + 6 + (a).toNat) (wdT (a)) (b)))) 0 0 (zA bs) := by
  refine zstart (by decide) (Nat.le_of_ble_eq_true rfl) ?_
  intro p e s m args below meth c ls C hE hH hr hlk hnm hl hargs
  have hF := hF hH.2.2.1 hH.2.2.2
  have hS : va_S (zA bs) s.heap s.heap [] := va_S.rf
  have hl : lv_has ls 3 [(0, .ref (bs + (i))), (1, .int (zI (a))), (2, .int (zI (b)))] := hl
  refine lv_iload_n C.1 C.2.1 dX11_storeOf_0 rfl (lv_at hl 1 rfl) ?_
  by_cases c1_0 : a = 0
  · have hF := hF.1 c1_0
    refine zd_tabI C ha 32 (0) c1_0 dX11_storeOf_1 (by decide) (by decide) rfl (by decide) ?_
    refine lv_aload_n C.1 C.2.1 dX11_storeOf_32 rfl (lv_at hl 0 rfl) ?_
    refine lv_aload_n C.1 C.2.1 dX11_storeOf_33 rfl (lv_at hl 0 rfl) ?_
    refine zg11_6 C hH (zM_n0 hM) (zM_k0 hM) q_1293 (zM_r6 hM) dX11_storeOf_34 ?_
    refine zd_bipush C (by decide) dX11_storeOf_37 ?_
    refine lv_iload_n C.1 C.2.1 dX11_storeOf_39 rfl (lv_at hl 2 rfl) ?_
    obtain ⟨o2, hF⟩ := hF
    refine zgov (zrunV (As := [.ref (bs + (i + 6)), .int (zI (13)), .int (zI (b))]) (rest := []) C hE hH hS hl.1 (c_X11_store (l := l) hM (zM_n6 hM) (zM_k6 hM) (zM_l6 hM) (by rw [zM_l6 hM]; decide) (13) (by decide) (b) hb o2) k_RX11_236 ⟨Nat.le_of_ble_eq_true rfl, Nat.le_of_ble_eq_true rfl⟩ (zM_n0 hM) (zM_k0 hM) rfl rfl rfl (Nat.le_of_ble_eq_true rfl) dX11_storeOf_40 ⟨Nat.zero_le _, Nat.zero_le _⟩) hS (fun X3 Yq Rq H locs hq hH hS => ?_)
    obtain ⟨h9Y, h9R, hq⟩ := hq
    dsimp only at h9Y h9R
    rw [h9Y, h9R] at hH
    have hF := hF X3 hH.2.2.1 hq
    refine lv_goto (tgt := 100) C.1 C.2.1 dX11_storeOf_43 (by decide) ?_
    exact zd_vret C hr hlk hH hS (⟨rfl, rfl, hF⟩) dX11_storeOf_100
  · have hF := hF.2
    by_cases c1_1 : a = 1
    · have hF := hF.1 c1_1
      refine zd_tabI C ha 46 (1) c1_1 dX11_storeOf_1 (by decide) (by decide) rfl (by decide) ?_
      refine lv_aload_n C.1 C.2.1 dX11_storeOf_46 rfl (lv_at hl 0 rfl) ?_
      refine lv_aload_n C.1 C.2.1 dX11_storeOf_47 rfl (lv_at hl 0 rfl) ?_
      refine zg11_7 C hH (zM_n0 hM) (zM_k0 hM) q_1294 (zM_r7 hM) dX11_storeOf_48 ?_
      refine zd_sipush C (by decide) dX11_storeOf_51 ?_
      refine lv_iload_n C.1 C.2.1 dX11_storeOf_54 rfl (lv_at hl 2 rfl) ?_
      obtain ⟨o4, hF⟩ := hF
      refine zgov (zrunV (As := [.ref (bs + (i + 7)), .int (zI (183)), .int (zI (b))]) (rest := []) C hE hH hS hl.1 (c_X11_store (l := l) hM (zM_n7 hM) (zM_k7 hM) (zM_l7 hM) (by rw [zM_l7 hM]; decide) (183) (by decide) (b) hb o4) k_RX11_236 ⟨Nat.le_of_ble_eq_true rfl, Nat.le_of_ble_eq_true rfl⟩ (zM_n0 hM) (zM_k0 hM) rfl rfl rfl (Nat.le_of_ble_eq_true rfl) dX11_storeOf_55 ⟨Nat.zero_le _, Nat.zero_le _⟩) hS (fun X5 Yq Rq H locs hq hH hS => ?_)
      obtain ⟨h9Y, h9R, hq⟩ := hq
      dsimp only at h9Y h9R
      rw [h9Y, h9R] at hH
      have hF := hF X5 hH.2.2.1 hq
      refine lv_goto (tgt := 100) C.1 C.2.1 dX11_storeOf_58 (by decide) ?_
      exact zd_vret C hr hlk hH hS (⟨rfl, rfl, hF⟩) dX11_storeOf_100
    · have hF := hF.2
      by_cases c1_2 : a = 2
      · have hF := hF.1 c1_2
        refine zd_tabI C ha 61 (2) c1_2 dX11_storeOf_1 (by decide) (by decide) rfl (by decide) ?_
        refine lv_aload_n C.1 C.2.1 dX11_storeOf_61 rfl (lv_at hl 0 rfl) ?_
        refine lv_aload_n C.1 C.2.1 dX11_storeOf_62 rfl (lv_at hl 0 rfl) ?_
        refine zg11_8 C hH (zM_n0 hM) (zM_k0 hM) q_1295 (zM_r8 hM) dX11_storeOf_63 ?_
        refine zd_bipush C (by decide) dX11_storeOf_66 ?_
        refine lv_iload_n C.1 C.2.1 dX11_storeOf_68 rfl (lv_at hl 2 rfl) ?_
        obtain ⟨o6, hF⟩ := hF
        refine zgov (zrunV (As := [.ref (bs + (i + 8)), .int (zI (81)), .int (zI (b))]) (rest := []) C hE hH hS hl.1 (c_X11_store (l := l) hM (zM_n8 hM) (zM_k8 hM) (zM_l8 hM) (by rw [zM_l8 hM]; decide) (81) (by decide) (b) hb o6) k_RX11_236 ⟨Nat.le_of_ble_eq_true rfl, Nat.le_of_ble_eq_true rfl⟩ (zM_n0 hM) (zM_k0 hM) rfl rfl rfl (Nat.le_of_ble_eq_true rfl) dX11_storeOf_69 ⟨Nat.zero_le _, Nat.zero_le _⟩) hS (fun X7 Yq Rq H locs hq hH hS => ?_)
        obtain ⟨h9Y, h9R, hq⟩ := hq
        dsimp only at h9Y h9R
        rw [h9Y, h9R] at hH
        have hF := hF X7 hH.2.2.1 hq
        refine lv_goto (tgt := 100) C.1 C.2.1 dX11_storeOf_72 (by decide) ?_
        exact zd_vret C hr hlk hH hS (⟨rfl, rfl, hF⟩) dX11_storeOf_100
      · have hF := hF.2
        by_cases c1_3 : a = 3
        · have hF := hF.1 c1_3
          refine zd_tabI C ha 75 (3) c1_3 dX11_storeOf_1 (by decide) (by decide) rfl (by decide) ?_
          refine lv_aload_n C.1 C.2.1 dX11_storeOf_75 rfl (lv_at hl 0 rfl) ?_
          refine lv_aload_n C.1 C.2.1 dX11_storeOf_76 rfl (lv_at hl 0 rfl) ?_
          refine zg11_9 C hH (zM_n0 hM) (zM_k0 hM) q_1296 (zM_r9 hM) dX11_storeOf_77 ?_
          refine zd_bipush C (by decide) dX11_storeOf_80 ?_
          refine lv_iload_n C.1 C.2.1 dX11_storeOf_82 rfl (lv_at hl 2 rfl) ?_
          obtain ⟨o8, hF⟩ := hF
          refine zgov (zrunV (As := [.ref (bs + (i + 9)), .int (zI (17)), .int (zI (b))]) (rest := []) C hE hH hS hl.1 (c_X11_store (l := l) hM (zM_n9 hM) (zM_k9 hM) (zM_l9 hM) (by rw [zM_l9 hM]; decide) (17) (by decide) (b) hb o8) k_RX11_236 ⟨Nat.le_of_ble_eq_true rfl, Nat.le_of_ble_eq_true rfl⟩ (zM_n0 hM) (zM_k0 hM) rfl rfl rfl (Nat.le_of_ble_eq_true rfl) dX11_storeOf_83 ⟨Nat.zero_le _, Nat.zero_le _⟩) hS (fun X9 Yq Rq H locs hq hH hS => ?_)
          obtain ⟨h9Y, h9R, hq⟩ := hq
          dsimp only at h9Y h9R
          rw [h9Y, h9R] at hH
          have hF := hF X9 hH.2.2.1 hq
          refine lv_goto (tgt := 100) C.1 C.2.1 dX11_storeOf_86 (by decide) ?_
          exact zd_vret C hr hlk hH hS (⟨rfl, rfl, hF⟩) dX11_storeOf_100
        · have hF := hF.2
          have c1 := tsw_0_3 (a) c1_0 c1_1 c1_2 c1_3
          have hF := hF c1
          refine zd_tabO C ha 89 c1 dX11_storeOf_1 (by decide) ?_
          refine lv_aload_n C.1 C.2.1 dX11_storeOf_89 rfl (lv_at hl 0 rfl) ?_
          refine lv_aload_n C.1 C.2.1 dX11_storeOf_90 rfl (lv_at hl 0 rfl) ?_
          refine zg11_10 C hH (zM_n0 hM) (zM_k0 hM) q_1297 (zM_r10 hM) dX11_storeOf_91 ?_
          refine zd_bipush C (by decide) dX11_storeOf_94 ?_
          refine lv_iload_n C.1 C.2.1 dX11_storeOf_96 rfl (lv_at hl 2 rfl) ?_
          obtain ⟨o10, hF⟩ := hF
          refine zgov (zrunV (As := [.ref (bs + (i + 10)), .int (zI (25)), .int (zI (b))]) (rest := []) C hE hH hS hl.1 (c_X11_store (l := l) hM (zM_n10 hM) (zM_k10 hM) (zM_l10 hM) (by rw [zM_l10 hM]; decide) (25) (by decide) (b) hb o10) k_RX11_236 ⟨Nat.le_of_ble_eq_true rfl, Nat.le_of_ble_eq_true rfl⟩ (zM_n0 hM) (zM_k0 hM) rfl rfl rfl (Nat.le_of_ble_eq_true rfl) dX11_storeOf_97 ⟨Nat.zero_le _, Nat.zero_le _⟩) hS (fun X11 Yq Rq H locs hq hH hS => ?_)
          obtain ⟨h9Y, h9R, hq⟩ := hq
          dsimp only at h9Y h9R
          rw [h9Y, h9R] at hH
          have hF := hF X11 hH.2.2.1 hq
          exact zd_vret C hr hlk hH hS (⟨rfl, rfl, hF⟩) dX11_storeOf_100
theorem v_X11_storeOf {X Y : Nat → Int → Int} {R : Nat → Int → Option Nat} {i : Nat} (a : Int) (ha : rI a) (b : Int) (hb : rI b) (hp : (0 ≤ a ∧ a ≤ 4) ∧ 0 ≤ b ∧ b < 8) : F_X11_storeOf i X Y R a b := by
  unfold F_X11_storeOf
  intro hX hY
  obtain ⟨ha4, hb0, hb7⟩ := hp
  refine ⟨?_, ?_⟩
  · intro c1
    subst c1
    refine ⟨?_, ?_⟩
    · exact ⟨⟨by decide, by decide, by omega⟩, ⟨by omega, by decide⟩, by omega⟩
    intro X3
    intro rX3
    intro h1
    exact h1
  refine ⟨?_, ?_⟩
  · intro c2
    subst c2
    refine ⟨?_, ?_⟩
    · exact ⟨⟨by decide, by decide, by omega⟩, ⟨by omega, by decide⟩, by omega⟩
    intro X5
    intro rX5
    intro h2
    exact h2
  refine ⟨?_, ?_⟩
  · intro c3
    subst c3
    refine ⟨?_, ?_⟩
    · exact ⟨⟨by decide, by decide, by omega⟩, ⟨by omega, by decide⟩, by omega⟩
    intro X7
    intro rX7
    intro h3
    exact h3
  refine ⟨?_, ?_⟩
  · intro c4
    subst c4
    refine ⟨?_, ?_⟩
    · exact ⟨⟨by decide, by decide, by omega⟩, ⟨by omega, by decide⟩, by omega⟩
    intro X9
    intro rX9
    intro h4
    exact h4
  intro c5
  have e4 : a = 4 := by omega
  subst e4
  refine ⟨?_, ?_⟩
  · exact ⟨⟨by decide, by decide, by omega⟩, ⟨by omega, by decide⟩, by omega⟩
  intro X11
  intro rX11
  intro h5
  exact h5
theorem c_X11_storeOf {l : Launch} {D : va_G} {cy : Nat → ClassId} {bs N : Nat} {sa : Nat → Nat} {kd len : Nat → Nat} {X Y : Nat → Int → Int} {R : Nat → Int → Option Nat} {i : Nat} (hM : zM N kd len R i) (a : Int) (ha : rI a) (b : Int) (hb : rI b) (hp : (0 ≤ a ∧ a ≤ 4) ∧ 0 ≤ b ∧ b < 8) : Met l yX11_storeOf (.code yX11_storeOf cX11_storeOf 3 none :: zTB) (zRm 1 24) (zPc D cy bs sa N kd len X Y R [.ref (bs + (i)), .int (zI (a)), .int (zI (b))]) (zQv D cy bs N kd len (fun st => st.2.1 = Y ∧ st.2.2 = R ∧ (stP X (st.1) i (i + 6 + (a).toNat) (wdT (a)) (b)))) 0 0 (zA bs) := w_X11_storeOf hM a ha b hb (v_X11_storeOf a ha b hb hp)
/-- whether an image of a sort may be told at a place -/
def txB (X : Nat → Int → Int) (i : Nat) (o at' : Int) : Bool := !(mIn o 0 4) || (if at' = -1 then decide (X (i + 5) o = 2) else !(mIs i X o at'))
def tx0 (X : Nat → Int → Int) (i : Nat) : Nat → Int → Int := zU (zU (zU (zU (zU X i 0 0) i 12 (X (i + 2) 0)) (i + 2) 0 0) (i + 3) 0 0) (i + 4) 0 (-1)
/-- a text is told -/
def txP (X X1 Y Y1 : Nat → Int → Int) (i : Nat) (o at' r : Int) : Prop := (txB X i o at' = true → r = -2 ∧ X1 = tx0 X i ∧ Y1 = Y) ∧ (txB X i o at' = false → ∃ X2 r2, rtK (tx0 X i) X2 Y Y1 i ∧ rtR X2 Y1 i o r2 (rdA (X (i + 1)) (X (i + 2) 0).toNat o ((X (i + 2) 0).toNat + 1) (s0R o)) ∧ (r2 = false → r = -1 ∧ X1 = X2) ∧ (r2 = true → r = (if at' = -1 then X (i + 5) o else at') ∧ stP (zU X2 (i + 5) o (X (i + 5) o + if at' = -1 then 1 else 0)) X1 i (i + 6 + o.toNat) (wdT o) r))
abbrev cX11_text : ByteArray := prog_13_method_35_code
def yX11_text : MethodName := ⟨RX11, "text", "(II)I"⟩
theorem dX11_text_0 : decode cX11_text 0 = .ok (.aload_n 0, 1) := by decide +kernel
theorem dX11_text_1 : decode cX11_text 1 = .ok (.iconst 0, 1) := by decide +kernel
theorem dX11_text_2 : decode cX11_text 2 = .ok (.putfield 88, 3) := by decide +kernel
theorem dX11_text_5 : decode cX11_text 5 = .ok (.aload_n 0, 1) := by decide +kernel
theorem dX11_text_6 : decode cX11_text 6 = .ok (.aload_n 0, 1) := by decide +kernel
theorem dX11_text_7 : decode cX11_text 7 = .ok (.getfield 13, 3) := by decide +kernel
theorem dX11_text_10 : decode cX11_text 10 = .ok (.iconst 0, 1) := by decide +kernel
theorem dX11_text_11 : decode cX11_text 11 = .ok (.iaload, 1) := by decide +kernel
theorem dX11_text_12 : decode cX11_text 12 = .ok (.putfield 111, 3) := by decide +kernel
theorem dX11_text_15 : decode cX11_text 15 = .ok (.aload_n 0, 1) := by decide +kernel
theorem dX11_text_16 : decode cX11_text 16 = .ok (.getfield 13, 3) := by decide +kernel
theorem dX11_text_19 : decode cX11_text 19 = .ok (.iconst 0, 1) := by decide +kernel
theorem dX11_text_20 : decode cX11_text 20 = .ok (.iconst 0, 1) := by decide +kernel
theorem dX11_text_21 : decode cX11_text 21 = .ok (.iastore, 1) := by decide +kernel
theorem dX11_text_22 : decode cX11_text 22 = .ok (.aload_n 0, 1) := by decide +kernel
theorem dX11_text_23 : decode cX11_text 23 = .ok (.getfield 17, 3) := by decide +kernel
theorem dX11_text_26 : decode cX11_text 26 = .ok (.iconst 0, 1) := by decide +kernel
theorem dX11_text_27 : decode cX11_text 27 = .ok (.iconst 0, 1) := by decide +kernel
theorem dX11_text_28 : decode cX11_text 28 = .ok (.iastore, 1) := by decide +kernel
theorem dX11_text_29 : decode cX11_text 29 = .ok (.aload_n 0, 1) := by decide +kernel
theorem dX11_text_30 : decode cX11_text 30 = .ok (.getfield 20, 3) := by decide +kernel
theorem dX11_text_33 : decode cX11_text 33 = .ok (.iconst 0, 1) := by decide +kernel
theorem dX11_text_34 : decode cX11_text 34 = .ok (.iconst (-1), 1) := by decide +kernel
theorem dX11_text_35 : decode cX11_text 35 = .ok (.iastore, 1) := by decide +kernel
theorem dX11_text_36 : decode cX11_text 36 = .ok (.iload_n 1, 1) := by decide +kernel
theorem dX11_text_37 : decode cX11_text 37 = .ok (.iconst 0, 1) := by decide +kernel
theorem dX11_text_38 : decode cX11_text 38 = .ok (.iconst 4, 1) := by decide +kernel
theorem dX11_text_39 : decode cX11_text 39 = .ok (.invokestatic 100, 3) := by decide +kernel
theorem dX11_text_42 : decode cX11_text 42 = .ok (.ifCond .eq 30, 3) := by decide +kernel
theorem dX11_text_45 : decode cX11_text 45 = .ok (.iload_n 2, 1) := by decide +kernel
theorem dX11_text_46 : decode cX11_text 46 = .ok (.iconst (-1), 1) := by decide +kernel
theorem dX11_text_47 : decode cX11_text 47 = .ok (.if_icmp .ne 16, 3) := by decide +kernel
theorem dX11_text_50 : decode cX11_text 50 = .ok (.aload_n 0, 1) := by decide +kernel
theorem dX11_text_51 : decode cX11_text 51 = .ok (.getfield 23, 3) := by decide +kernel
theorem dX11_text_54 : decode cX11_text 54 = .ok (.iload_n 1, 1) := by decide +kernel
theorem dX11_text_55 : decode cX11_text 55 = .ok (.iaload, 1) := by decide +kernel
theorem dX11_text_56 : decode cX11_text 56 = .ok (.iconst 2, 1) := by decide +kernel
theorem dX11_text_57 : decode cX11_text 57 = .ok (.if_icmp .ne 18, 3) := by decide +kernel
theorem dX11_text_60 : decode cX11_text 60 = .ok (.goto 12, 3) := by decide +kernel
theorem dX11_text_63 : decode cX11_text 63 = .ok (.aload_n 0, 1) := by decide +kernel
theorem dX11_text_64 : decode cX11_text 64 = .ok (.iload_n 1, 1) := by decide +kernel
theorem dX11_text_65 : decode cX11_text 65 = .ok (.iload_n 2, 1) := by decide +kernel
theorem dX11_text_66 : decode cX11_text 66 = .ok (.invokevirtual 240, 3) := by decide +kernel
theorem dX11_text_69 : decode cX11_text 69 = .ok (.ifCond .ne 6, 3) := by decide +kernel
theorem dX11_text_72 : decode cX11_text 72 = .ok (.bipush (-2), 2) := by decide +kernel
theorem dX11_text_74 : decode cX11_text 74 = .ok (.ireturn, 1) := by decide +kernel
theorem dX11_text_75 : decode cX11_text 75 = .ok (.aload_n 0, 1) := by decide +kernel
theorem dX11_text_76 : decode cX11_text 76 = .ok (.iload_n 1, 1) := by decide +kernel
theorem dX11_text_77 : decode cX11_text 77 = .ok (.invokevirtual 243, 3) := by decide +kernel
theorem dX11_text_80 : decode cX11_text 80 = .ok (.ifCond .ne 5, 3) := by decide +kernel
theorem dX11_text_83 : decode cX11_text 83 = .ok (.iconst (-1), 1) := by decide +kernel
theorem dX11_text_84 : decode cX11_text 84 = .ok (.ireturn, 1) := by decide +kernel
theorem dX11_text_85 : decode cX11_text 85 = .ok (.iload_n 2, 1) := by decide +kernel
theorem dX11_text_86 : decode cX11_text 86 = .ok (.iconst (-1), 1) := by decide +kernel
theorem dX11_text_87 : decode cX11_text 87 = .ok (.if_icmp .ne 12, 3) := by decide +kernel
theorem dX11_text_90 : decode cX11_text 90 = .ok (.aload_n 0, 1) := by decide +kernel
theorem dX11_text_91 : decode cX11_text 91 = .ok (.getfield 23, 3) := by decide +kernel
theorem dX11_text_94 : decode cX11_text 94 = .ok (.iload_n 1, 1) := by decide +kernel
theorem dX11_text_95 : decode cX11_text 95 = .ok (.iaload, 1) := by decide +kernel
theorem dX11_text_96 : decode cX11_text 96 = .ok (.goto 4, 3) := by decide +kernel
theorem dX11_text_99 : decode cX11_text 99 = .ok (.iload_n 2, 1) := by decide +kernel
theorem dX11_text_100 : decode cX11_text 100 = .ok (.istore_n 3, 1) := by decide +kernel
theorem dX11_text_101 : decode cX11_text 101 = .ok (.aload_n 0, 1) := by decide +kernel
theorem dX11_text_102 : decode cX11_text 102 = .ok (.getfield 23, 3) := by decide +kernel
theorem dX11_text_105 : decode cX11_text 105 = .ok (.iload_n 1, 1) := by decide +kernel
theorem dX11_text_106 : decode cX11_text 106 = .ok (.dup2, 1) := by decide +kernel
theorem dX11_text_107 : decode cX11_text 107 = .ok (.iaload, 1) := by decide +kernel
theorem dX11_text_108 : decode cX11_text 108 = .ok (.iload_n 2, 1) := by decide +kernel
theorem dX11_text_109 : decode cX11_text 109 = .ok (.iconst (-1), 1) := by decide +kernel
theorem dX11_text_110 : decode cX11_text 110 = .ok (.if_icmp .ne 7, 3) := by decide +kernel
theorem dX11_text_113 : decode cX11_text 113 = .ok (.iconst 1, 1) := by decide +kernel
theorem dX11_text_114 : decode cX11_text 114 = .ok (.goto 4, 3) := by decide +kernel
theorem dX11_text_117 : decode cX11_text 117 = .ok (.iconst 0, 1) := by decide +kernel
theorem dX11_text_118 : decode cX11_text 118 = .ok (.iadd, 1) := by decide +kernel
theorem dX11_text_119 : decode cX11_text 119 = .ok (.iastore, 1) := by decide +kernel
theorem dX11_text_120 : decode cX11_text 120 = .ok (.aload_n 0, 1) := by decide +kernel
theorem dX11_text_121 : decode cX11_text 121 = .ok (.iload_n 1, 1) := by decide +kernel
theorem dX11_text_122 : decode cX11_text 122 = .ok (.iload_n 3, 1) := by decide +kernel
theorem dX11_text_123 : decode cX11_text 123 = .ok (.invokevirtual 246, 3) := by decide +kernel
theorem dX11_text_126 : decode cX11_text 126 = .ok (.iload_n 3, 1) := by decide +kernel
theorem dX11_text_127 : decode cX11_text 127 = .ok (.ireturn, 1) := by decide +kernel
theorem q_1509 : Cond.methodLink RX11 243 yX11_readText ∈ zTB := zmem 1509 (by decide +kernel) rfl
theorem q_1511 : Cond.instanceMethod yX11_readText ∈ zTB := zmem 1511 (by decide +kernel) rfl
theorem q_35 : Cond.selects RX11 yX11_readText yX11_readText ∈ zTB := zmem 35 (by decide +kernel) rfl
theorem q_1512 : Cond.code yX11_readText cX11_readText 3 (some .boolean) ∈ zTB := zmem 1512 (by decide +kernel) rfl
theorem k_RX11_243 : zLv RX11 243 RX11 yX11_readText cX11_readText 3 (some .boolean) 1 := ⟨⟨q_1509, q_1511, q_35, q_140, q_1512⟩, rfl, ⟨by decide, by decide⟩, by decide +kernel⟩
theorem q_1601 : Cond.methodLink RX11 246 yX11_storeOf ∈ zTB := zmem 1601 (by decide +kernel) rfl
theorem q_1603 : Cond.instanceMethod yX11_storeOf ∈ zTB := zmem 1603 (by decide +kernel) rfl
theorem q_54 : Cond.selects RX11 yX11_storeOf yX11_storeOf ∈ zTB := zmem 54 (by decide +kernel) rfl
theorem q_1604 : Cond.code yX11_storeOf cX11_storeOf 3 none ∈ zTB := zmem 1604 (by decide +kernel) rfl
theorem k_RX11_246 : zLv RX11 246 RX11 yX11_storeOf cX11_storeOf 3 none 2 := ⟨⟨q_1601, q_1603, q_54, q_140, q_1604⟩, rfl, ⟨by decide, by decide⟩, by decide +kernel⟩
def F_X11_text (i : Nat) (X Y : Nat → Int → Int) (R : Nat → Int → Option Nat) (a : Int) (b : Int) : Prop := (∀ i j, rI (X i j)) → (∀ i j, rL (Y i j)) → ∀ X1 : Nat → Int → Int, X1 = zU X (i) 0 (0) → (∀ i j, rI (X1 i j)) → (∀ X2 : Nat → Int → Int, X2 = zU X1 (i) 12 (X1 (i + 2) (0)) → (∀ i j, rI (X2 i j)) → (∀ X3 : Nat → Int → Int, X3 = zU X2 (i + 2) (0) (0) → (∀ i j, rI (X3 i j)) → (∀ X4 : Nat → Int → Int, X4 = zU X3 (i + 3) (0) (0) → (∀ i j, rI (X4 i j)) → (∀ X5 : Nat → Int → Int, X5 = zU X4 (i + 4) (0) ((-1)) → (∀ i j, rI (X5 i j)) → ((((mIn (a) ((0 : Int)) ((4 : Int))) = false) → (txP X (X5) Y (Y) i (a) (b) ((-2)))) ∧ (((mIn (a) ((0 : Int)) ((4 : Int))) = true) → (((¬ b = (-1)) → ((0 ≤ a ∧ a < 5 ∧ 0 ≤ X5 (i + 5) a) ∧ ((((mIs i X5 (a) (b)) = true) → (((0 ≤ a ∧ a ≤ 4) ∧ oTb X5 i ∧ 0 ≤ X5 i 12 ∧ X5 i 12 ≤ 600) ∧ (∀ r13 : Bool, ∀ X11 : Nat → Int → Int, (∀ i j, rI (X11 i j)) → ∀ Y12 : Nat → Int → Int, (∀ i j, rL (Y12 i j)) → (rtK X5 (X11) Y (Y12) i ∧ rtR (X11) (Y12) i (a) r13 (rdA (X5 (i + 1)) (X5 i 12).toNat (a) ((X5 i 12).toNat + 1) (s0R (a)))) → (((r13 = true) → (((¬ b = (-1)) → ((0 ≤ a ∧ a < 20) ∧ (((¬ b = (-1)) → ((0 ≤ a ∧ a < 20) ∧ ((rI ((X11 (i + 5) (a)) + 0)) ∧ (∀ X20 : Nat → Int → Int, X20 = zU X11 (i + 5) (a) ((X11 (i + 5) (a)) + 0) → (∀ i j, rI (X20 i j)) → (((0 ≤ a ∧ a ≤ 4) ∧ 0 ≤ b ∧ b < 8) ∧ (∀ X22 : Nat → Int → Int, (∀ i j, rI (X22 i j)) → (stP X20 (X22) i (i + 6 + (a).toNat) (wdT (a)) (b)) → (txP X (X22) Y (Y12) i (a) (b) (b)))))))) ∧ ((¬ (¬ b = (-1))) → ((0 ≤ a ∧ a < 20) ∧ ((rI ((X11 (i + 5) (a)) + 1)) ∧ (∀ X25 : Nat → Int → Int, X25 = zU X11 (i + 5) (a) ((X11 (i + 5) (a)) + 1) → (∀ i j, rI (X25 i j)) → (((0 ≤ a ∧ a ≤ 4) ∧ 0 ≤ b ∧ b < 8) ∧ (∀ X27 : Nat → Int → Int, (∀ i j, rI (X27 i j)) → (stP X25 (X27) i (i + 6 + (a).toNat) (wdT (a)) (b)) → (txP X (X27) Y (Y12) i (a) (b) (b))))))))))) ∧ ((¬ (¬ b = (-1))) → ((0 ≤ a ∧ a < 20) ∧ ((0 ≤ a ∧ a < 20) ∧ (((¬ b = (-1)) → ((0 ≤ a ∧ a < 20) ∧ ((rI ((X11 (i + 5) (a)) + 0)) ∧ (∀ X33 : Nat → Int → Int, X33 = zU X11 (i + 5) (a) ((X11 (i + 5) (a)) + 0) → (∀ i j, rI (X33 i j)) → (((0 ≤ a ∧ a ≤ 4) ∧ 0 ≤ X11 (i + 5) (a) ∧ X11 (i + 5) (a) < 8) ∧ (∀ X35 : Nat → Int → Int, (∀ i j, rI (X35 i j)) → (stP X33 (X35) i (i + 6 + (a).toNat) (wdT (a)) (X11 (i + 5) (a))) → (txP X (X35) Y (Y12) i (a) (b) (X11 (i + 5) (a))))))))) ∧ ((¬ (¬ b = (-1))) → ((0 ≤ a ∧ a < 20) ∧ ((rI ((X11 (i + 5) (a)) + 1)) ∧ (∀ X38 : Nat → Int → Int, X38 = zU X11 (i + 5) (a) ((X11 (i + 5) (a)) + 1) → (∀ i j, rI (X38 i j)) → (((0 ≤ a ∧ a ≤ 4) ∧ 0 ≤ X11 (i + 5) (a) ∧ X11 (i + 5) (a) < 8) ∧ (∀ X40 : Nat → Int → Int, (∀ i j, rI (X40 i j)) → (stP X38 (X40) i (i + 6 + (a).toNat) (wdT (a)) (X11 (i + 5) (a))) → (txP X (X40) Y (Y12) i (a) (b) (X11 (i + 5) (a))))))))))))))) ∧ ((r13 = false) → (txP X (X11) Y (Y12) i (a) (b) ((-1)))))))) ∧ (((mIs i X5 (a) (b)) = false) → (txP X (X5) Y (Y) i (a) (b) ((-2))))))) ∧ ((¬ (¬ b = (-1))) → ((0 ≤ a ∧ a < 20) ∧ (((¬ (X5 (i + 5) (a)) = 2) → (((0 ≤ a ∧ a ≤ 4) ∧ oTb X5 i ∧ 0 ≤ X5 i 12 ∧ X5 i 12 ≤ 600) ∧ (∀ r46 : Bool, ∀ X44 : Nat → Int → Int, (∀ i j, rI (X44 i j)) → ∀ Y45 : Nat → Int → Int, (∀ i j, rL (Y45 i j)) → (rtK X5 (X44) Y (Y45) i ∧ rtR (X44) (Y45) i (a) r46 (rdA (X5 (i + 1)) (X5 i 12).toNat (a) ((X5 i 12).toNat + 1) (s0R (a)))) → (((r46 = true) → (((¬ b = (-1)) → ((0 ≤ a ∧ a < 20) ∧ (((¬ b = (-1)) → ((0 ≤ a ∧ a < 20) ∧ ((rI ((X44 (i + 5) (a)) + 0)) ∧ (∀ X53 : Nat → Int → Int, X53 = zU X44 (i + 5) (a) ((X44 (i + 5) (a)) + 0) → (∀ i j, rI (X53 i j)) → (((0 ≤ a ∧ a ≤ 4) ∧ 0 ≤ b ∧ b < 8) ∧ (∀ X55 : Nat → Int → Int, (∀ i j, rI (X55 i j)) → (stP X53 (X55) i (i + 6 + (a).toNat) (wdT (a)) (b)) → (txP X (X55) Y (Y45) i (a) (b) (b)))))))) ∧ ((¬ (¬ b = (-1))) → ((0 ≤ a ∧ a < 20) ∧ ((rI ((X44 (i + 5) (a)) + 1)) ∧ (∀ X58 : Nat → Int → Int, X58 = zU X44 (i + 5) (a) ((X44 (i + 5) (a)) + 1) → (∀ i j, rI (X58 i j)) → (((0 ≤ a ∧ a ≤ 4) ∧ 0 ≤ b ∧ b < 8) ∧ (∀ X60 : Nat → Int → Int, (∀ i j, rI (X60 i j)) → (stP X58 (X60) i (i + 6 + (a).toNat) (wdT (a)) (b)) → (txP X (X60) Y (Y45) i (a) (b) (b))))))))))) ∧ ((¬ (¬ b = (-1))) → ((0 ≤ a ∧ a < 20) ∧ ((0 ≤ a ∧ a < 20) ∧ (((¬ b = (-1)) → ((0 ≤ a ∧ a < 20) ∧ ((rI ((X44 (i + 5) (a)) + 0)) ∧ (∀ X66 : Nat → Int → Int, X66 = zU X44 (i + 5) (a) ((X44 (i + 5) (a)) + 0) → (∀ i j, rI (X66 i j)) → (((0 ≤ a ∧ a ≤ 4) ∧ 0 ≤ X44 (i + 5) (a) ∧ X44 (i + 5) (a) < 8) ∧ (∀ X68 : Nat → Int → Int, (∀ i j, rI (X68 i j)) → (stP X66 (X68) i (i + 6 + (a).toNat) (wdT (a)) (X44 (i + 5) (a))) → (txP X (X68) Y (Y45) i (a) (b) (X44 (i + 5) (a))))))))) ∧ ((¬ (¬ b = (-1))) → ((0 ≤ a ∧ a < 20) ∧ ((rI ((X44 (i + 5) (a)) + 1)) ∧ (∀ X71 : Nat → Int → Int, X71 = zU X44 (i + 5) (a) ((X44 (i + 5) (a)) + 1) → (∀ i j, rI (X71 i j)) → (((0 ≤ a ∧ a ≤ 4) ∧ 0 ≤ X44 (i + 5) (a) ∧ X44 (i + 5) (a) < 8) ∧ (∀ X73 : Nat → Int → Int, (∀ i j, rI (X73 i j)) → (stP X71 (X73) i (i + 6 + (a).toNat) (wdT (a)) (X44 (i + 5) (a))) → (txP X (X73) Y (Y45) i (a) (b) (X44 (i + 5) (a))))))))))))))) ∧ ((r46 = false) → (txP X (X44) Y (Y45) i (a) (b) ((-1)))))))) ∧ ((¬ (¬ (X5 (i + 5) (a)) = 2)) → (txP X (X5) Y (Y) i (a) (b) ((-2))))))))))))))
set_option maxHeartbeats 4000000 in
set_option maxRecDepth 100000 in
theorem w_X11_text {l : Launch} {D : va_G} {cy : Nat → ClassId} {bs N : Nat} {sa : Nat → Nat} {kd len : Nat → Nat} {X Y : Nat → Int → Int} {R : Nat → Int → Option Nat} {i : Nat} (hM : zM N kd len R i) (a : Int) (ha : rI a) (b : Int) (hb : rI b) (hF : F_X11_text i X Y R a b) : Met l yX11_text (.code yX11_text cX11_text 4 (some .int) :: zTB) (zRm 9 208) (zPc D cy bs sa N kd len X Y R [.ref (bs + (i)), .int (zI (a)), .int (zI (b))]) (zQi D cy bs N kd len (fun r st => st.2.2 = R ∧ (txP X (st.1) Y (st.2.1) i (a) (b) (r)))) 0 0 (zA bs) := by
  refine zstart (by decide) (Nat.le_of_ble_eq_true rfl) ?_
  intro p e s m args below meth c ls C hE hH hr hlk hnm hl hargs
  have hF := hF hH.2.2.1 hH.2.2.2
  have hS : va_S (zA bs) s.heap s.heap [] := va_S.rf
  have hl : lv_has ls 4 [(0, .ref (bs + (i))), (1, .int (zI (a))), (2, .int (zI (b)))] := hl
  refine lv_aload_n C.1 C.2.1 dX11_text_0 rfl (lv_at hl 0 rfl) ?_
  refine zd_iconst C dX11_text_1 ?_
  refine zp11_0 C hH hS (zM_n0 hM) (zM_k0 hM) q_1287 (by decide) dX11_text_2 (fun H locs hH hS => ?_)
  obtain ⟨X1, eX1⟩ : ∃ z, z = zU X (i) 0 (0) := ⟨_, rfl⟩
  rw [← eX1] at hH
  have hF := hF X1 eX1 hH.2.2.1
  refine lv_aload_n C.1 C.2.1 dX11_text_5 rfl (lv_at hl 0 rfl) ?_
  refine lv_aload_n C.1 C.2.1 dX11_text_6 rfl (lv_at hl 0 rfl) ?_
  refine zg11_2 C hH (zM_n0 hM) (zM_k0 hM) q_1289 (zM_r2 hM) dX11_text_7 ?_
  refine zd_iconst C dX11_text_10 ?_
  refine zd_iald C hH (zM_n2 hM) (zM_k2 hM) (by decide) (by rw [zM_l2 hM]; decide) (by rw [zM_l2 hM]; decide) dX11_text_11 ?_
  refine zp11_12 C hH hS (zM_n0 hM) (zM_k0 hM) q_1299 (hH.2.2.1 _ _) dX11_text_12 (fun H locs hH hS => ?_)
  obtain ⟨X2, eX2⟩ : ∃ z, z = zU X1 (i) 12 (X1 (i + 2) (0)) := ⟨_, rfl⟩
  rw [← eX2] at hH
  have hF := hF X2 eX2 hH.2.2.1
  refine lv_aload_n C.1 C.2.1 dX11_text_15 rfl (lv_at hl 0 rfl) ?_
  refine zg11_2 C hH (zM_n0 hM) (zM_k0 hM) q_1289 (zM_r2 hM) dX11_text_16 ?_
  refine zd_iconst C dX11_text_19 ?_
  refine zd_iconst C dX11_text_20 ?_
  refine zd_iast C hH hS (zM_n2 hM) (zM_k2 hM) (by decide) (by rw [zM_l2 hM]; decide) (by rw [zM_l2 hM]; decide) (by decide) dX11_text_21 (fun H locs hH hS => ?_)
  obtain ⟨X3, eX3⟩ : ∃ z, z = zU X2 (i + 2) (0) (0) := ⟨_, rfl⟩
  rw [← eX3] at hH
  have hF := hF X3 eX3 hH.2.2.1
  refine lv_aload_n C.1 C.2.1 dX11_text_22 rfl (lv_at hl 0 rfl) ?_
  refine zg11_3 C hH (zM_n0 hM) (zM_k0 hM) q_1290 (zM_r3 hM) dX11_text_23 ?_
  refine zd_iconst C dX11_text_26 ?_
  refine zd_iconst C dX11_text_27 ?_
  refine zd_iast C hH hS (zM_n3 hM) (zM_k3 hM) (by decide) (by rw [zM_l3 hM]; decide) (by rw [zM_l3 hM]; decide) (by decide) dX11_text_28 (fun H locs hH hS => ?_)
  obtain ⟨X4, eX4⟩ : ∃ z, z = zU X3 (i + 3) (0) (0) := ⟨_, rfl⟩
  rw [← eX4] at hH
  have hF := hF X4 eX4 hH.2.2.1
  refine lv_aload_n C.1 C.2.1 dX11_text_29 rfl (lv_at hl 0 rfl) ?_
  refine zg11_4 C hH (zM_n0 hM) (zM_k0 hM) q_1291 (zM_r4 hM) dX11_text_30 ?_
  refine zd_iconst C dX11_text_33 ?_
  refine zd_iconst C dX11_text_34 ?_
  refine zd_iast C hH hS (zM_n4 hM) (zM_k4 hM) (by decide) (by rw [zM_l4 hM]; decide) (by rw [zM_l4 hM]; decide) (by decide) dX11_text_35 (fun H locs hH hS => ?_)
  obtain ⟨X5, eX5⟩ : ∃ z, z = zU X4 (i + 4) (0) ((-1)) := ⟨_, rfl⟩
  rw [← eX5] at hH
  have hF := hF X5 eX5 hH.2.2.1
  refine lv_iload_n C.1 C.2.1 dX11_text_36 rfl (lv_at hl 1 rfl) ?_
  refine zd_iconst C dX11_text_37 ?_
  refine zd_iconst C dX11_text_38 ?_
  refine zgoi (zrunS (As := [.int (zI (a)), .int (zI (0)), .int (zI (4))]) (rest := []) C hE hH hS hl.1 (c_X11_in (l := l)  (a) ha (0) (by decide) (4) (by decide)) k_RX11_100 ⟨Nat.le_of_ble_eq_true rfl, Nat.le_of_ble_eq_true rfl⟩ rfl (Nat.le_of_ble_eq_true rfl) dX11_text_39 ⟨Nat.zero_le _, Nat.zero_le _⟩) hS (fun rq Xq Yq Rq H locs hrq hq hH hS => ?_)
  obtain ⟨h91, h92⟩ := hq
  have h93 : Xq = X5 := congrArg (fun z => z.1) h92
  have h94 : Yq = Y := congrArg (fun z => z.2.1) h92
  have h95 : Rq = R := congrArg (fun z => z.2.2) h92
  rw [h93, h94, h95] at hH
  subst h91
  refine zd_ifB_eq C 72 dX11_text_42 (by decide) (fun c6 => ?_) (fun c6 => ?_)
  · have hF := hF.1 c6
    refine zd_bipush C (by decide) dX11_text_72 ?_
    exact zd_iret C hr hlk hH hS (by decide) (⟨rfl, hF⟩) dX11_text_74
  · have hF := hF.2 c6
    refine lv_iload_n C.1 C.2.1 dX11_text_45 rfl (lv_at hl 2 rfl) ?_
    refine zd_iconst C dX11_text_46 ?_
    refine zd_icmp_ne C hb (by decide) 63 dX11_text_47 (by decide) (fun c7 => ?_) (fun c7 => ?_)
    · have hF := hF.1 c7
      refine lv_aload_n C.1 C.2.1 dX11_text_63 rfl (lv_at hl 0 rfl) ?_
      refine lv_iload_n C.1 C.2.1 dX11_text_64 rfl (lv_at hl 1 rfl) ?_
      refine lv_iload_n C.1 C.2.1 dX11_text_65 rfl (lv_at hl 2 rfl) ?_
      obtain ⟨o8, hF⟩ := hF
      refine zgoi (zrunV (As := [.int (zI (a)), .int (zI (b))]) (rest := []) C hE hH hS hl.1 (c_X11_is (l := l) hM (a) ha (b) hb o8) k_RX11_240 ⟨Nat.le_of_ble_eq_true rfl, Nat.le_of_ble_eq_true rfl⟩ (zM_n0 hM) (zM_k0 hM) rfl rfl rfl (Nat.le_of_ble_eq_true rfl) dX11_text_66 ⟨Nat.zero_le _, Nat.zero_le _⟩) hS (fun rq Xq Yq Rq H locs hrq hq hH hS => ?_)
      obtain ⟨h91, h92⟩ := hq
      have h93 : Xq = X5 := congrArg (fun z => z.1) h92
      have h94 : Yq = Y := congrArg (fun z => z.2.1) h92
      have h95 : Rq = R := congrArg (fun z => z.2.2) h92
      rw [h93, h94, h95] at hH
      subst h91
      refine zd_ifB_ne C 75 dX11_text_69 (by decide) (fun c9 => ?_) (fun c9 => ?_)
      · have hF := hF.1 c9
        refine lv_aload_n C.1 C.2.1 dX11_text_75 rfl (lv_at hl 0 rfl) ?_
        refine lv_iload_n C.1 C.2.1 dX11_text_76 rfl (lv_at hl 1 rfl) ?_
        obtain ⟨o10, hF⟩ := hF
        refine zgoi (zrunV (As := [.int (zI (a))]) (rest := []) C hE hH hS hl.1 (c_X11_readText (l := l) hM (a) ha o10) k_RX11_243 ⟨Nat.le_of_ble_eq_true rfl, Nat.le_of_ble_eq_true rfl⟩ (zM_n0 hM) (zM_k0 hM) rfl rfl rfl (Nat.le_of_ble_eq_true rfl) dX11_text_77 ⟨Nat.zero_le _, Nat.zero_le _⟩) hS (fun rq X11 Y12 Rq H locs hrq hq hH hS => ?_)
        obtain ⟨h9R, hq⟩ := hq
        dsimp only at h9R
        rw [h9R] at hH
        obtain ⟨r13, h91, hq⟩ := hq
        subst h91
        have hF := hF r13 X11 hH.2.2.1 Y12 hH.2.2.2 hq
        refine zd_ifB_ne C 85 dX11_text_80 (by decide) (fun c14 => ?_) (fun c14 => ?_)
        · have hF := hF.1 c14
          refine lv_iload_n C.1 C.2.1 dX11_text_85 rfl (lv_at hl 2 rfl) ?_
          refine zd_iconst C dX11_text_86 ?_
          refine zd_icmp_ne C hb (by decide) 99 dX11_text_87 (by decide) (fun c15 => ?_) (fun c15 => ?_)
          · have hF := hF.1 c15
            refine lv_iload_n C.1 C.2.1 dX11_text_99 rfl (lv_at hl 2 rfl) ?_
            refine lv_istore_n (lv' := [(3, .int (zI (b))), (0, .ref (bs + (i))), (1, .int (zI (a))), (2, .int (zI (b)))]) C.1 C.2.1 dX11_text_100 rfl hl (by decide) rfl (fun ls hl => ?_)
            refine lv_aload_n C.1 C.2.1 dX11_text_101 rfl (lv_at hl 1 rfl) ?_
            refine zg11_5 C hH (zM_n0 hM) (zM_k0 hM) q_1292 (zM_r5 hM) dX11_text_102 ?_
            refine lv_iload_n C.1 C.2.1 dX11_text_105 rfl (lv_at hl 2 rfl) ?_
            refine lv_dup2_11 C.1 C.2.1 dX11_text_106 rfl rfl ?_
            obtain ⟨o16, hF⟩ := hF
            refine zd_iald C hH (zM_n5 hM) (zM_k5 hM) o16.1 (by rw [zM_l5 hM]; exact o16.2) (by rw [zM_l5 hM]; decide) dX11_text_107 ?_
            refine lv_iload_n C.1 C.2.1 dX11_text_108 rfl (lv_at hl 3 rfl) ?_
            refine zd_iconst C dX11_text_109 ?_
            refine zd_icmp_ne C hb (by decide) 117 dX11_text_110 (by decide) (fun c17 => ?_) (fun c17 => ?_)
            · have hF := hF.1 c17
              refine zd_iconst C dX11_text_117 ?_
              refine zd_iadd C dX11_text_118 ?_
              obtain ⟨o18, hF⟩ := hF
              obtain ⟨o19, hF⟩ := hF
              refine zd_iast C hH hS (zM_n5 hM) (zM_k5 hM) o18.1 (by rw [zM_l5 hM]; exact o18.2) (by rw [zM_l5 hM]; decide) o19 dX11_text_119 (fun H locs hH hS => ?_)
              obtain ⟨X20, eX20⟩ : ∃ z, z = zU X11 (i + 5) (a) ((X11 (i + 5) (a)) + 0) := ⟨_, rfl⟩
              rw [← eX20] at hH
              have hF := hF X20 eX20 hH.2.2.1
              refine lv_aload_n C.1 C.2.1 dX11_text_120 rfl (lv_at hl 1 rfl) ?_
              refine lv_iload_n C.1 C.2.1 dX11_text_121 rfl (lv_at hl 2 rfl) ?_
              refine lv_iload_n C.1 C.2.1 dX11_text_122 rfl (lv_at hl 0 rfl) ?_
              obtain ⟨o21, hF⟩ := hF
              refine zgov (zrunV (As := [.int (zI (a)), .int (zI (b))]) (rest := []) C hE hH hS hl.1 (c_X11_storeOf (l := l) hM (a) ha (b) hb o21) k_RX11_246 ⟨Nat.le_of_ble_eq_true rfl, Nat.le_of_ble_eq_true rfl⟩ (zM_n0 hM) (zM_k0 hM) rfl rfl rfl (Nat.le_of_ble_eq_true rfl) dX11_text_123 ⟨Nat.zero_le _, Nat.zero_le _⟩) hS (fun X22 Yq Rq H locs hq hH hS => ?_)
              obtain ⟨h9Y, h9R, hq⟩ := hq
              dsimp only at h9Y h9R
              rw [h9Y, h9R] at hH
              have hF := hF X22 hH.2.2.1 hq
              refine lv_iload_n C.1 C.2.1 dX11_text_126 rfl (lv_at hl 0 rfl) ?_
              exact zd_iret C hr hlk hH hS hb (⟨rfl, hF⟩) dX11_text_127
            · have hF := hF.2 c17
              refine zd_iconst C dX11_text_113 ?_
              refine lv_goto (tgt := 118) C.1 C.2.1 dX11_text_114 (by decide) ?_
              refine zd_iadd C dX11_text_118 ?_
              obtain ⟨o23, hF⟩ := hF
              obtain ⟨o24, hF⟩ := hF
              refine zd_iast C hH hS (zM_n5 hM) (zM_k5 hM) o23.1 (by rw [zM_l5 hM]; exact o23.2) (by rw [zM_l5 hM]; decide) o24 dX11_text_119 (fun H locs hH hS => ?_)
              obtain ⟨X25, eX25⟩ : ∃ z, z = zU X11 (i + 5) (a) ((X11 (i + 5) (a)) + 1) := ⟨_, rfl⟩
              rw [← eX25] at hH
              have hF := hF X25 eX25 hH.2.2.1
              refine lv_aload_n C.1 C.2.1 dX11_text_120 rfl (lv_at hl 1 rfl) ?_
              refine lv_iload_n C.1 C.2.1 dX11_text_121 rfl (lv_at hl 2 rfl) ?_
              refine lv_iload_n C.1 C.2.1 dX11_text_122 rfl (lv_at hl 0 rfl) ?_
              obtain ⟨o26, hF⟩ := hF
              refine zgov (zrunV (As := [.int (zI (a)), .int (zI (b))]) (rest := []) C hE hH hS hl.1 (c_X11_storeOf (l := l) hM (a) ha (b) hb o26) k_RX11_246 ⟨Nat.le_of_ble_eq_true rfl, Nat.le_of_ble_eq_true rfl⟩ (zM_n0 hM) (zM_k0 hM) rfl rfl rfl (Nat.le_of_ble_eq_true rfl) dX11_text_123 ⟨Nat.zero_le _, Nat.zero_le _⟩) hS (fun X27 Yq Rq H locs hq hH hS => ?_)
              obtain ⟨h9Y, h9R, hq⟩ := hq
              dsimp only at h9Y h9R
              rw [h9Y, h9R] at hH
              have hF := hF X27 hH.2.2.1 hq
              refine lv_iload_n C.1 C.2.1 dX11_text_126 rfl (lv_at hl 0 rfl) ?_
              exact zd_iret C hr hlk hH hS hb (⟨rfl, hF⟩) dX11_text_127
          · have hF := hF.2 c15
            refine lv_aload_n C.1 C.2.1 dX11_text_90 rfl (lv_at hl 0 rfl) ?_
            refine zg11_5 C hH (zM_n0 hM) (zM_k0 hM) q_1292 (zM_r5 hM) dX11_text_91 ?_
            refine lv_iload_n C.1 C.2.1 dX11_text_94 rfl (lv_at hl 1 rfl) ?_
            obtain ⟨o28, hF⟩ := hF
            refine zd_iald C hH (zM_n5 hM) (zM_k5 hM) o28.1 (by rw [zM_l5 hM]; exact o28.2) (by rw [zM_l5 hM]; decide) dX11_text_95 ?_
            refine lv_goto (tgt := 100) C.1 C.2.1 dX11_text_96 (by decide) ?_
            refine lv_istore_n (lv' := [(3, .int (zI (X11 (i + 5) (a)))), (0, .ref (bs + (i))), (1, .int (zI (a))), (2, .int (zI (b)))]) C.1 C.2.1 dX11_text_100 rfl hl (by decide) rfl (fun ls hl => ?_)
            refine lv_aload_n C.1 C.2.1 dX11_text_101 rfl (lv_at hl 1 rfl) ?_
            refine zg11_5 C hH (zM_n0 hM) (zM_k0 hM) q_1292 (zM_r5 hM) dX11_text_102 ?_
            refine lv_iload_n C.1 C.2.1 dX11_text_105 rfl (lv_at hl 2 rfl) ?_
            refine lv_dup2_11 C.1 C.2.1 dX11_text_106 rfl rfl ?_
            obtain ⟨o29, hF⟩ := hF
            refine zd_iald C hH (zM_n5 hM) (zM_k5 hM) o29.1 (by rw [zM_l5 hM]; exact o29.2) (by rw [zM_l5 hM]; decide) dX11_text_107 ?_
            refine lv_iload_n C.1 C.2.1 dX11_text_108 rfl (lv_at hl 3 rfl) ?_
            refine zd_iconst C dX11_text_109 ?_
            refine zd_icmp_ne C hb (by decide) 117 dX11_text_110 (by decide) (fun c30 => ?_) (fun c30 => ?_)
            · have hF := hF.1 c30
              refine zd_iconst C dX11_text_117 ?_
              refine zd_iadd C dX11_text_118 ?_
              obtain ⟨o31, hF⟩ := hF
              obtain ⟨o32, hF⟩ := hF
              have gg1 := hH.2.2.1
              refine zd_iast C hH hS (zM_n5 hM) (zM_k5 hM) o31.1 (by rw [zM_l5 hM]; exact o31.2) (by rw [zM_l5 hM]; decide) o32 dX11_text_119 (fun H locs hH hS => ?_)
              obtain ⟨X33, eX33⟩ : ∃ z, z = zU X11 (i + 5) (a) ((X11 (i + 5) (a)) + 0) := ⟨_, rfl⟩
              rw [← eX33] at hH
              have hF := hF X33 eX33 hH.2.2.1
              refine lv_aload_n C.1 C.2.1 dX11_text_120 rfl (lv_at hl 1 rfl) ?_
              refine lv_iload_n C.1 C.2.1 dX11_text_121 rfl (lv_at hl 2 rfl) ?_
              refine lv_iload_n C.1 C.2.1 dX11_text_122 rfl (lv_at hl 0 rfl) ?_
              obtain ⟨o34, hF⟩ := hF
              refine zgov (zrunV (As := [.int (zI (a)), .int (zI (X11 (i + 5) (a)))]) (rest := []) C hE hH hS hl.1 (c_X11_storeOf (l := l) hM (a) ha (X11 (i + 5) (a)) (gg1 _ _) o34) k_RX11_246 ⟨Nat.le_of_ble_eq_true rfl, Nat.le_of_ble_eq_true rfl⟩ (zM_n0 hM) (zM_k0 hM) rfl rfl rfl (Nat.le_of_ble_eq_true rfl) dX11_text_123 ⟨Nat.zero_le _, Nat.zero_le _⟩) hS (fun X35 Yq Rq H locs hq hH hS => ?_)
              obtain ⟨h9Y, h9R, hq⟩ := hq
              dsimp only at h9Y h9R
              rw [h9Y, h9R] at hH
              have hF := hF X35 hH.2.2.1 hq
              refine lv_iload_n C.1 C.2.1 dX11_text_126 rfl (lv_at hl 0 rfl) ?_
              exact zd_iret C hr hlk hH hS (gg1 _ _) (⟨rfl, hF⟩) dX11_text_127
            · have hF := hF.2 c30
              refine zd_iconst C dX11_text_113 ?_
              refine lv_goto (tgt := 118) C.1 C.2.1 dX11_text_114 (by decide) ?_
              refine zd_iadd C dX11_text_118 ?_
              obtain ⟨o36, hF⟩ := hF
              obtain ⟨o37, hF⟩ := hF
              have gg2 := hH.2.2.1
              refine zd_iast C hH hS (zM_n5 hM) (zM_k5 hM) o36.1 (by rw [zM_l5 hM]; exact o36.2) (by rw [zM_l5 hM]; decide) o37 dX11_text_119 (fun H locs hH hS => ?_)
              obtain ⟨X38, eX38⟩ : ∃ z, z = zU X11 (i + 5) (a) ((X11 (i + 5) (a)) + 1) := ⟨_, rfl⟩
              rw [← eX38] at hH
              have hF := hF X38 eX38 hH.2.2.1
              refine lv_aload_n C.1 C.2.1 dX11_text_120 rfl (lv_at hl 1 rfl) ?_
              refine lv_iload_n C.1 C.2.1 dX11_text_121 rfl (lv_at hl 2 rfl) ?_
              refine lv_iload_n C.1 C.2.1 dX11_text_122 rfl (lv_at hl 0 rfl) ?_
              obtain ⟨o39, hF⟩ := hF
              refine zgov (zrunV (As := [.int (zI (a)), .int (zI (X11 (i + 5) (a)))]) (rest := []) C hE hH hS hl.1 (c_X11_storeOf (l := l) hM (a) ha (X11 (i + 5) (a)) (gg2 _ _) o39) k_RX11_246 ⟨Nat.le_of_ble_eq_true rfl, Nat.le_of_ble_eq_true rfl⟩ (zM_n0 hM) (zM_k0 hM) rfl rfl rfl (Nat.le_of_ble_eq_true rfl) dX11_text_123 ⟨Nat.zero_le _, Nat.zero_le _⟩) hS (fun X40 Yq Rq H locs hq hH hS => ?_)
              obtain ⟨h9Y, h9R, hq⟩ := hq
              dsimp only at h9Y h9R
              rw [h9Y, h9R] at hH
              have hF := hF X40 hH.2.2.1 hq
              refine lv_iload_n C.1 C.2.1 dX11_text_126 rfl (lv_at hl 0 rfl) ?_
              exact zd_iret C hr hlk hH hS (gg2 _ _) (⟨rfl, hF⟩) dX11_text_127
        · have hF := hF.2 c14
          refine zd_iconst C dX11_text_83 ?_
          exact zd_iret C hr hlk hH hS (by decide) (⟨rfl, hF⟩) dX11_text_84
      · have hF := hF.2 c9
        refine zd_bipush C (by decide) dX11_text_72 ?_
        exact zd_iret C hr hlk hH hS (by decide) (⟨rfl, hF⟩) dX11_text_74
    · have hF := hF.2 c7
      refine lv_aload_n C.1 C.2.1 dX11_text_50 rfl (lv_at hl 0 rfl) ?_
      refine zg11_5 C hH (zM_n0 hM) (zM_k0 hM) q_1292 (zM_r5 hM) dX11_text_51 ?_
      refine lv_iload_n C.1 C.2.1 dX11_text_54 rfl (lv_at hl 1 rfl) ?_
      obtain ⟨o41, hF⟩ := hF
      refine zd_iald C hH (zM_n5 hM) (zM_k5 hM) o41.1 (by rw [zM_l5 hM]; exact o41.2) (by rw [zM_l5 hM]; decide) dX11_text_55 ?_
      refine zd_iconst C dX11_text_56 ?_
      refine zd_icmp_ne C (hH.2.2.1 _ _) (by decide) 75 dX11_text_57 (by decide) (fun c42 => ?_) (fun c42 => ?_)
      · have hF := hF.1 c42
        refine lv_aload_n C.1 C.2.1 dX11_text_75 rfl (lv_at hl 0 rfl) ?_
        refine lv_iload_n C.1 C.2.1 dX11_text_76 rfl (lv_at hl 1 rfl) ?_
        obtain ⟨o43, hF⟩ := hF
        refine zgoi (zrunV (As := [.int (zI (a))]) (rest := []) C hE hH hS hl.1 (c_X11_readText (l := l) hM (a) ha o43) k_RX11_243 ⟨Nat.le_of_ble_eq_true rfl, Nat.le_of_ble_eq_true rfl⟩ (zM_n0 hM) (zM_k0 hM) rfl rfl rfl (Nat.le_of_ble_eq_true rfl) dX11_text_77 ⟨Nat.zero_le _, Nat.zero_le _⟩) hS (fun rq X44 Y45 Rq H locs hrq hq hH hS => ?_)
        obtain ⟨h9R, hq⟩ := hq
        dsimp only at h9R
        rw [h9R] at hH
        obtain ⟨r46, h91, hq⟩ := hq
        subst h91
        have hF := hF r46 X44 hH.2.2.1 Y45 hH.2.2.2 hq
        refine zd_ifB_ne C 85 dX11_text_80 (by decide) (fun c47 => ?_) (fun c47 => ?_)
        · have hF := hF.1 c47
          refine lv_iload_n C.1 C.2.1 dX11_text_85 rfl (lv_at hl 2 rfl) ?_
          refine zd_iconst C dX11_text_86 ?_
          refine zd_icmp_ne C hb (by decide) 99 dX11_text_87 (by decide) (fun c48 => ?_) (fun c48 => ?_)
          · have hF := hF.1 c48
            refine lv_iload_n C.1 C.2.1 dX11_text_99 rfl (lv_at hl 2 rfl) ?_
            refine lv_istore_n (lv' := [(3, .int (zI (b))), (0, .ref (bs + (i))), (1, .int (zI (a))), (2, .int (zI (b)))]) C.1 C.2.1 dX11_text_100 rfl hl (by decide) rfl (fun ls hl => ?_)
            refine lv_aload_n C.1 C.2.1 dX11_text_101 rfl (lv_at hl 1 rfl) ?_
            refine zg11_5 C hH (zM_n0 hM) (zM_k0 hM) q_1292 (zM_r5 hM) dX11_text_102 ?_
            refine lv_iload_n C.1 C.2.1 dX11_text_105 rfl (lv_at hl 2 rfl) ?_
            refine lv_dup2_11 C.1 C.2.1 dX11_text_106 rfl rfl ?_
            obtain ⟨o49, hF⟩ := hF
            refine zd_iald C hH (zM_n5 hM) (zM_k5 hM) o49.1 (by rw [zM_l5 hM]; exact o49.2) (by rw [zM_l5 hM]; decide) dX11_text_107 ?_
            refine lv_iload_n C.1 C.2.1 dX11_text_108 rfl (lv_at hl 3 rfl) ?_
            refine zd_iconst C dX11_text_109 ?_
            refine zd_icmp_ne C hb (by decide) 117 dX11_text_110 (by decide) (fun c50 => ?_) (fun c50 => ?_)
            · have hF := hF.1 c50
              refine zd_iconst C dX11_text_117 ?_
              refine zd_iadd C dX11_text_118 ?_
              obtain ⟨o51, hF⟩ := hF
              obtain ⟨o52, hF⟩ := hF
              refine zd_iast C hH hS (zM_n5 hM) (zM_k5 hM) o51.1 (by rw [zM_l5 hM]; exact o51.2) (by rw [zM_l5 hM]; decide) o52 dX11_text_119 (fun H locs hH hS => ?_)
              obtain ⟨X53, eX53⟩ : ∃ z, z = zU X44 (i + 5) (a) ((X44 (i + 5) (a)) + 0) := ⟨_, rfl⟩
              rw [← eX53] at hH
              have hF := hF X53 eX53 hH.2.2.1
              refine lv_aload_n C.1 C.2.1 dX11_text_120 rfl (lv_at hl 1 rfl) ?_
              refine lv_iload_n C.1 C.2.1 dX11_text_121 rfl (lv_at hl 2 rfl) ?_
              refine lv_iload_n C.1 C.2.1 dX11_text_122 rfl (lv_at hl 0 rfl) ?_
              obtain ⟨o54, hF⟩ := hF
              refine zgov (zrunV (As := [.int (zI (a)), .int (zI (b))]) (rest := []) C hE hH hS hl.1 (c_X11_storeOf (l := l) hM (a) ha (b) hb o54) k_RX11_246 ⟨Nat.le_of_ble_eq_true rfl, Nat.le_of_ble_eq_true rfl⟩ (zM_n0 hM) (zM_k0 hM) rfl rfl rfl (Nat.le_of_ble_eq_true rfl) dX11_text_123 ⟨Nat.zero_le _, Nat.zero_le _⟩) hS (fun X55 Yq Rq H locs hq hH hS => ?_)
              obtain ⟨h9Y, h9R, hq⟩ := hq
              dsimp only at h9Y h9R
              rw [h9Y, h9R] at hH
              have hF := hF X55 hH.2.2.1 hq
              refine lv_iload_n C.1 C.2.1 dX11_text_126 rfl (lv_at hl 0 rfl) ?_
              exact zd_iret C hr hlk hH hS hb (⟨rfl, hF⟩) dX11_text_127
            · have hF := hF.2 c50
              refine zd_iconst C dX11_text_113 ?_
              refine lv_goto (tgt := 118) C.1 C.2.1 dX11_text_114 (by decide) ?_
              refine zd_iadd C dX11_text_118 ?_
              obtain ⟨o56, hF⟩ := hF
              obtain ⟨o57, hF⟩ := hF
              refine zd_iast C hH hS (zM_n5 hM) (zM_k5 hM) o56.1 (by rw [zM_l5 hM]; exact o56.2) (by rw [zM_l5 hM]; decide) o57 dX11_text_119 (fun H locs hH hS => ?_)
              obtain ⟨X58, eX58⟩ : ∃ z, z = zU X44 (i + 5) (a) ((X44 (i + 5) (a)) + 1) := ⟨_, rfl⟩
              rw [← eX58] at hH
              have hF := hF X58 eX58 hH.2.2.1
              refine lv_aload_n C.1 C.2.1 dX11_text_120 rfl (lv_at hl 1 rfl) ?_
              refine lv_iload_n C.1 C.2.1 dX11_text_121 rfl (lv_at hl 2 rfl) ?_
              refine lv_iload_n C.1 C.2.1 dX11_text_122 rfl (lv_at hl 0 rfl) ?_
              obtain ⟨o59, hF⟩ := hF
              refine zgov (zrunV (As := [.int (zI (a)), .int (zI (b))]) (rest := []) C hE hH hS hl.1 (c_X11_storeOf (l := l) hM (a) ha (b) hb o59) k_RX11_246 ⟨Nat.le_of_ble_eq_true rfl, Nat.le_of_ble_eq_true rfl⟩ (zM_n0 hM) (zM_k0 hM) rfl rfl rfl (Nat.le_of_ble_eq_true rfl) dX11_text_123 ⟨Nat.zero_le _, Nat.zero_le _⟩) hS (fun X60 Yq Rq H locs hq hH hS => ?_)
              obtain ⟨h9Y, h9R, hq⟩ := hq
              dsimp only at h9Y h9R
              rw [h9Y, h9R] at hH
              have hF := hF X60 hH.2.2.1 hq
              refine lv_iload_n C.1 C.2.1 dX11_text_126 rfl (lv_at hl 0 rfl) ?_
              exact zd_iret C hr hlk hH hS hb (⟨rfl, hF⟩) dX11_text_127
          · have hF := hF.2 c48
            refine lv_aload_n C.1 C.2.1 dX11_text_90 rfl (lv_at hl 0 rfl) ?_
            refine zg11_5 C hH (zM_n0 hM) (zM_k0 hM) q_1292 (zM_r5 hM) dX11_text_91 ?_
            refine lv_iload_n C.1 C.2.1 dX11_text_94 rfl (lv_at hl 1 rfl) ?_
            obtain ⟨o61, hF⟩ := hF
            refine zd_iald C hH (zM_n5 hM) (zM_k5 hM) o61.1 (by rw [zM_l5 hM]; exact o61.2) (by rw [zM_l5 hM]; decide) dX11_text_95 ?_
            refine lv_goto (tgt := 100) C.1 C.2.1 dX11_text_96 (by decide) ?_
            refine lv_istore_n (lv' := [(3, .int (zI (X44 (i + 5) (a)))), (0, .ref (bs + (i))), (1, .int (zI (a))), (2, .int (zI (b)))]) C.1 C.2.1 dX11_text_100 rfl hl (by decide) rfl (fun ls hl => ?_)
            refine lv_aload_n C.1 C.2.1 dX11_text_101 rfl (lv_at hl 1 rfl) ?_
            refine zg11_5 C hH (zM_n0 hM) (zM_k0 hM) q_1292 (zM_r5 hM) dX11_text_102 ?_
            refine lv_iload_n C.1 C.2.1 dX11_text_105 rfl (lv_at hl 2 rfl) ?_
            refine lv_dup2_11 C.1 C.2.1 dX11_text_106 rfl rfl ?_
            obtain ⟨o62, hF⟩ := hF
            refine zd_iald C hH (zM_n5 hM) (zM_k5 hM) o62.1 (by rw [zM_l5 hM]; exact o62.2) (by rw [zM_l5 hM]; decide) dX11_text_107 ?_
            refine lv_iload_n C.1 C.2.1 dX11_text_108 rfl (lv_at hl 3 rfl) ?_
            refine zd_iconst C dX11_text_109 ?_
            refine zd_icmp_ne C hb (by decide) 117 dX11_text_110 (by decide) (fun c63 => ?_) (fun c63 => ?_)
            · have hF := hF.1 c63
              refine zd_iconst C dX11_text_117 ?_
              refine zd_iadd C dX11_text_118 ?_
              obtain ⟨o64, hF⟩ := hF
              obtain ⟨o65, hF⟩ := hF
              have gg3 := hH.2.2.1
              refine zd_iast C hH hS (zM_n5 hM) (zM_k5 hM) o64.1 (by rw [zM_l5 hM]; exact o64.2) (by rw [zM_l5 hM]; decide) o65 dX11_text_119 (fun H locs hH hS => ?_)
              obtain ⟨X66, eX66⟩ : ∃ z, z = zU X44 (i + 5) (a) ((X44 (i + 5) (a)) + 0) := ⟨_, rfl⟩
              rw [← eX66] at hH
              have hF := hF X66 eX66 hH.2.2.1
              refine lv_aload_n C.1 C.2.1 dX11_text_120 rfl (lv_at hl 1 rfl) ?_
              refine lv_iload_n C.1 C.2.1 dX11_text_121 rfl (lv_at hl 2 rfl) ?_
              refine lv_iload_n C.1 C.2.1 dX11_text_122 rfl (lv_at hl 0 rfl) ?_
              obtain ⟨o67, hF⟩ := hF
              refine zgov (zrunV (As := [.int (zI (a)), .int (zI (X44 (i + 5) (a)))]) (rest := []) C hE hH hS hl.1 (c_X11_storeOf (l := l) hM (a) ha (X44 (i + 5) (a)) (gg3 _ _) o67) k_RX11_246 ⟨Nat.le_of_ble_eq_true rfl, Nat.le_of_ble_eq_true rfl⟩ (zM_n0 hM) (zM_k0 hM) rfl rfl rfl (Nat.le_of_ble_eq_true rfl) dX11_text_123 ⟨Nat.zero_le _, Nat.zero_le _⟩) hS (fun X68 Yq Rq H locs hq hH hS => ?_)
              obtain ⟨h9Y, h9R, hq⟩ := hq
              dsimp only at h9Y h9R
              rw [h9Y, h9R] at hH
              have hF := hF X68 hH.2.2.1 hq
              refine lv_iload_n C.1 C.2.1 dX11_text_126 rfl (lv_at hl 0 rfl) ?_
              exact zd_iret C hr hlk hH hS (gg3 _ _) (⟨rfl, hF⟩) dX11_text_127
            · have hF := hF.2 c63
              refine zd_iconst C dX11_text_113 ?_
              refine lv_goto (tgt := 118) C.1 C.2.1 dX11_text_114 (by decide) ?_
              refine zd_iadd C dX11_text_118 ?_
              obtain ⟨o69, hF⟩ := hF
              obtain ⟨o70, hF⟩ := hF
              have gg4 := hH.2.2.1
              refine zd_iast C hH hS (zM_n5 hM) (zM_k5 hM) o69.1 (by rw [zM_l5 hM]; exact o69.2) (by rw [zM_l5 hM]; decide) o70 dX11_text_119 (fun H locs hH hS => ?_)
              obtain ⟨X71, eX71⟩ : ∃ z, z = zU X44 (i + 5) (a) ((X44 (i + 5) (a)) + 1) := ⟨_, rfl⟩
              rw [← eX71] at hH
              have hF := hF X71 eX71 hH.2.2.1
              refine lv_aload_n C.1 C.2.1 dX11_text_120 rfl (lv_at hl 1 rfl) ?_
              refine lv_iload_n C.1 C.2.1 dX11_text_121 rfl (lv_at hl 2 rfl) ?_
              refine lv_iload_n C.1 C.2.1 dX11_text_122 rfl (lv_at hl 0 rfl) ?_
              obtain ⟨o72, hF⟩ := hF
              refine zgov (zrunV (As := [.int (zI (a)), .int (zI (X44 (i + 5) (a)))]) (rest := []) C hE hH hS hl.1 (c_X11_storeOf (l := l) hM (a) ha (X44 (i + 5) (a)) (gg4 _ _) o72) k_RX11_246 ⟨Nat.le_of_ble_eq_true rfl, Nat.le_of_ble_eq_true rfl⟩ (zM_n0 hM) (zM_k0 hM) rfl rfl rfl (Nat.le_of_ble_eq_true rfl) dX11_text_123 ⟨Nat.zero_le _, Nat.zero_le _⟩) hS (fun X73 Yq Rq H locs hq hH hS => ?_)
              obtain ⟨h9Y, h9R, hq⟩ := hq
              dsimp only at h9Y h9R
              rw [h9Y, h9R] at hH
              have hF := hF X73 hH.2.2.1 hq
              refine lv_iload_n C.1 C.2.1 dX11_text_126 rfl (lv_at hl 0 rfl) ?_
              exact zd_iret C hr hlk hH hS (gg4 _ _) (⟨rfl, hF⟩) dX11_text_127
        · have hF := hF.2 c47
          refine zd_iconst C dX11_text_83 ?_
          exact zd_iret C hr hlk hH hS (by decide) (⟨rfl, hF⟩) dX11_text_84
      · have hF := hF.2 c42
        refine lv_goto (tgt := 72) C.1 C.2.1 dX11_text_60 (by decide) ?_
        refine zd_bipush C (by decide) dX11_text_72 ?_
        exact zd_iret C hr hlk hH hS (by decide) (⟨rfl, hF⟩) dX11_text_74
theorem v_X11_text {X Y : Nat → Int → Int} {R : Nat → Int → Option Nat} {i : Nat} (a : Int) (ha : rI a) (b : Int) (hb : rI b) (hp : oTb X i ∧ 0 ≤ X (i + 2) 0 ∧ X (i + 2) 0 ≤ 600 ∧ ∀ y : Int, 0 ≤ y → y < 5 → 0 ≤ X (i + 5) y ∧ X (i + 5) y ≤ 2) : F_X11_text i X Y R a b := by
  unfold F_X11_text
  intro hX hY
  obtain ⟨htb, hl0, hl1, hmy⟩ := hp
  intro X1
  intro eX1
  intro rX1
  intro X2
  intro eX2
  intro rX2
  intro X3
  intro eX3
  intro rX3
  intro X4
  intro eX4
  intro rX4
  intro X5
  intro eX5
  have e5 : X5 = tx0 X i := by
    rw [eX5, eX4, eX3, eX2, eX1, zU_o (show i + 2 ≠ i by omega)]
    rfl
  have m5 : X5 (i + 5) = X (i + 5) := by rw [eX5, zU_o (by omega), eX4, zU_o (by omega), eX3, zU_o (by omega), eX2, zU_o (by omega), eX1, zU_o (by omega)]
  have f51 : X5 (i + 1) = X (i + 1) := by rw [eX5, zU_o (by omega), eX4, zU_o (by omega), eX3, zU_o (by omega), eX2, zU_o (by omega), eX1, zU_o (by omega)]
  have f512 : X5 i 12 = X (i + 2) 0 := by rw [eX5, zU_o (by omega), eX4, zU_o (by omega), eX3, zU_o (by omega), eX2, zU_s, eX1, zU_o (by omega)]
  have o5 : oTb X5 i := fun y y0 y1 => by
    rw [f51]
    exact htb y y0 y1
  have is5 : mIs i X5 a b = mIs i X a b := by
    unfold mIs
    rw [m5]
  intro rX5
  refine ⟨?_, ?_⟩
  · intro c1
    have e : txB X i a b = true := by
      unfold txB
      rw [c1]
      rfl
    refine ⟨fun _ => ⟨rfl, e5, rfl⟩, fun g => ?_⟩
    rw [e] at g
    cases g
  intro c2
  have bt := hmy a (by have := of_decide_eq_true c2; omega) (by have := of_decide_eq_true c2; omega)
  have ba := of_decide_eq_true c2
  refine ⟨?_, ?_⟩
  · intro c3
    refine ⟨?_, ?_⟩
    · rw [m5]
      exact ⟨by omega, by omega, bt.1⟩
    refine ⟨?_, ?_⟩
    · intro c4
      rw [is5] at c4
      refine ⟨?_, ?_⟩
      · exact ⟨ba, o5, by rw [f512]; exact hl0, by rw [f512]; exact hl1⟩
      intro r13
      intro X11
      intro rX11
      intro Y12
      intro rY12
      intro h1
      rw [f51, f512] at h1
      rw [e5] at h1
      have mX11 : X11 (i + 5) = X (i + 5) := (h1.1.1 _ (by omega) (by omega) (by omega) (by omega) (by omega)).trans (by rw [← e5]; exact m5)
      refine ⟨?_, ?_⟩
      · intro c5
        refine ⟨?_, ?_⟩
        · intro c6
          refine ⟨?_, ?_⟩
          · first | omega | exact ⟨by omega, by omega⟩ | decide | assumption | exact ⟨by omega, by omega, by omega⟩ | exact ⟨by decide, by decide⟩
          refine ⟨?_, ?_⟩
          · intro c7
            refine ⟨?_, ?_⟩
            · first | omega | exact ⟨by omega, by omega⟩ | decide | assumption | exact ⟨by omega, by omega, by omega⟩ | exact ⟨by decide, by decide⟩
            refine ⟨?_, ?_⟩
            · rw [mX11]
              exact ⟨by omega, by omega⟩
            intro X20
            intro eX20
            intro rX20
            refine ⟨?_, ?_⟩
            · have c4 : decide (0 ≤ b ∧ b ≤ X (i + 5) a - 1) = true := c4
              have c4 := of_decide_eq_true c4
              exact ⟨ba, by omega, by omega⟩
            intro X22
            intro rX22
            intro h2
            have e : txB X i a b = false := by
              unfold txB
              rw [c2, if_neg c3, c4]
              rfl
            refine ⟨fun g => (by rw [e] at g; cases g), fun _ => ⟨X11, r13, h1.1, h1.2, fun g => (by rw [c5] at g; cases g), fun _ => ⟨?_, ?_⟩⟩⟩
            · rw [if_neg c3]
            · rw [if_neg c3]
              rw [eX20, mX11] at h2
              exact h2
          intro c8
          exact absurd c3 c8
        intro c9
        exact absurd c3 c9
      intro c12
      have e : txB X i a b = false := by
        unfold txB
        rw [c2, if_neg c3, c4]
        rfl
      exact ⟨fun g => (by rw [e] at g; cases g), fun _ => ⟨X11, r13, h1.1, h1.2, fun _ => ⟨rfl, rfl⟩, fun g => (by rw [c12] at g; cases g)⟩⟩
    intro c13
    rw [is5] at c13
    have e : txB X i a b = true := by
      unfold txB
      rw [c2, if_neg c3, c13]
      rfl
    refine ⟨fun _ => ⟨rfl, e5, rfl⟩, fun g => ?_⟩
    rw [e] at g
    cases g
  intro c14
  refine ⟨?_, ?_⟩
  · first | omega | exact ⟨by omega, by omega⟩ | decide | assumption | exact ⟨by omega, by omega, by omega⟩ | exact ⟨by decide, by decide⟩
  refine ⟨?_, ?_⟩
  · intro c15
    rw [m5] at c15
    refine ⟨?_, ?_⟩
    · exact ⟨ba, o5, by rw [f512]; exact hl0, by rw [f512]; exact hl1⟩
    intro r46
    intro X44
    intro rX44
    intro Y45
    intro rY45
    intro h6
    rw [f51, f512] at h6
    rw [e5] at h6
    have mX44 : X44 (i + 5) = X (i + 5) := (h6.1.1 _ (by omega) (by omega) (by omega) (by omega) (by omega)).trans (by rw [← e5]; exact m5)
    refine ⟨?_, ?_⟩
    · intro c16
      refine ⟨?_, ?_⟩
      · intro c17
        exact absurd c17 c14
      intro c20
      refine ⟨?_, ?_⟩
      · first | omega | exact ⟨by omega, by omega⟩ | decide | assumption | exact ⟨by omega, by omega, by omega⟩ | exact ⟨by decide, by decide⟩
      refine ⟨?_, ?_⟩
      · first | omega | exact ⟨by omega, by omega⟩ | decide | assumption | exact ⟨by omega, by omega, by omega⟩ | exact ⟨by decide, by decide⟩
      refine ⟨?_, ?_⟩
      · intro c21
        exact absurd c21 c14
      intro c22
      refine ⟨?_, ?_⟩
      · first | omega | exact ⟨by omega, by omega⟩ | decide | assumption | exact ⟨by omega, by omega, by omega⟩ | exact ⟨by decide, by decide⟩
      refine ⟨?_, ?_⟩
      · rw [mX44]
        exact ⟨by omega, by omega⟩
      intro X71
      intro eX71
      intro rX71
      refine ⟨?_, ?_⟩
      · rw [mX44]
        exact ⟨ba, by omega, by omega⟩
      intro X73
      intro rX73
      intro h10
      have e : txB X i a b = false := by
        unfold txB
        rw [c2, if_pos (Classical.not_not.mp c14), decide_eq_false c15]
        rfl
      refine ⟨fun g => (by rw [e] at g; cases g), fun _ => ⟨X44, r46, h6.1, h6.2, fun g => (by rw [c16] at g; cases g), fun _ => ⟨?_, ?_⟩⟩⟩
      · rw [if_pos (Classical.not_not.mp c14), mX44]
      · rw [if_pos (Classical.not_not.mp c14), mX44]
        rw [eX71, mX44] at h10
        exact h10
    intro c23
    have e : txB X i a b = false := by
      unfold txB
      rw [c2, if_pos (Classical.not_not.mp c14), decide_eq_false c15]
      rfl
    exact ⟨fun g => (by rw [e] at g; cases g), fun _ => ⟨X44, r46, h6.1, h6.2, fun _ => ⟨rfl, rfl⟩, fun g => (by rw [c23] at g; cases g)⟩⟩
  intro c24
  rw [m5] at c24
  have e : txB X i a b = true := by
    unfold txB
    rw [c2, if_pos (Classical.not_not.mp c14), decide_eq_true (Classical.not_not.mp c24)]
    rfl
  refine ⟨fun _ => ⟨rfl, e5, rfl⟩, fun g => ?_⟩
  rw [e] at g
  cases g
theorem c_X11_text {l : Launch} {D : va_G} {cy : Nat → ClassId} {bs N : Nat} {sa : Nat → Nat} {kd len : Nat → Nat} {X Y : Nat → Int → Int} {R : Nat → Int → Option Nat} {i : Nat} (hM : zM N kd len R i) (a : Int) (ha : rI a) (b : Int) (hb : rI b) (hp : oTb X i ∧ 0 ≤ X (i + 2) 0 ∧ X (i + 2) 0 ≤ 600 ∧ ∀ y : Int, 0 ≤ y → y < 5 → 0 ≤ X (i + 5) y ∧ X (i + 5) y ≤ 2) : Met l yX11_text (.code yX11_text cX11_text 4 (some .int) :: zTB) (zRm 9 208) (zPc D cy bs sa N kd len X Y R [.ref (bs + (i)), .int (zI (a)), .int (zI (b))]) (zQi D cy bs N kd len (fun r st => st.2.2 = R ∧ (txP X (st.1) Y (st.2.1) i (a) (b) (r)))) 0 0 (zA bs) := w_X11_text hM a ha b hb (v_X11_text a ha b hb hp)
