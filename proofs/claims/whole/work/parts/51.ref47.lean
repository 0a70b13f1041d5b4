/-! IMAGES -/
def wdO : Nat → Int
  | 1 => 600
  | 2 => 1
  | 3 => 1
  | 4 => 1
  | 5 => 5
  | 6 => 26
  | 7 => 366
  | 8 => 162
  | 9 => 34
  | _ => 50
/-- all rows of one copied to another -/
def cpO (X X1 : Nat → Int → Int) (i : Nat) (f t : Int) (o : Nat) : Prop := (∀ y, 0 ≤ y → y < wdO o → X1 (i + o) (wdO o * t + y) = X (i + o) (wdO o * f + y)) ∧ ∀ y, (y < wdO o * t ∨ wdO o * t + wdO o ≤ y) → X1 (i + o) y = X (i + o) y
def cpI (X X1 : Nat → Int → Int) (i : Nat) (f t : Int) : Prop := (∀ z, (z < i + 1 ∨ i + 10 < z) → X1 z = X z) ∧ ∀ o, 1 ≤ o → o ≤ 10 → cpO X X1 i f t o
def oTb (X : Nat → Int → Int) (i : Nat) : Prop := ∀ y, 0 ≤ y → y < 2400 → -128 ≤ X (i + 1) y ∧ X (i + 1) y ≤ 127
abbrev crP (X X1 : Nat → Int → Int) (j : Nat) (n f t : Int) : Prop := (∀ z, z ≠ j → X1 z = X z) ∧ (∀ y, 0 ≤ y → y < n → X1 j (n * t + y) = X j (n * f + y)) ∧ ∀ y, (y < n * t ∨ n * t + n ≤ y) → X1 j y = X j y
abbrev cX11_copyRow : ByteArray := prog_13_method_8_code
def yX11_copyRow : MethodName := ⟨RX11, "copyRow", "([IIII)V"⟩
theorem dX11_copyRow_0 : decode cX11_copyRow 0 = .ok (.iconst 0, 1) := by decide +kernel
theorem dX11_copyRow_1 : decode cX11_copyRow 1 = .ok (.istore 4, 2) := by decide +kernel
theorem dX11_copyRow_3 : decode cX11_copyRow 3 = .ok (.iload 4, 2) := by decide +kernel
theorem dX11_copyRow_5 : decode cX11_copyRow 5 = .ok (.iload_n 1, 1) := by decide +kernel
theorem dX11_copyRow_6 : decode cX11_copyRow 6 = .ok (.if_icmp .ge 25, 3) := by decide +kernel
theorem dX11_copyRow_9 : decode cX11_copyRow 9 = .ok (.aload_n 0, 1) := by decide +kernel
theorem dX11_copyRow_10 : decode cX11_copyRow 10 = .ok (.iload_n 1, 1) := by decide +kernel
theorem dX11_copyRow_11 : decode cX11_copyRow 11 = .ok (.iload_n 3, 1) := by decide +kernel
theorem dX11_copyRow_12 : decode cX11_copyRow 12 = .ok (.imul, 1) := by decide +kernel
theorem dX11_copyRow_13 : decode cX11_copyRow 13 = .ok (.iload 4, 2) := by decide +kernel
theorem dX11_copyRow_15 : decode cX11_copyRow 15 = .ok (.iadd, 1) := by decide +kernel
theorem dX11_copyRow_16 : decode cX11_copyRow 16 = .ok (.aload_n 0, 1) := by decide +kernel
theorem dX11_copyRow_17 : decode cX11_copyRow 17 = .ok (.iload_n 1, 1) := by decide +kernel
theorem dX11_copyRow_18 : decode cX11_copyRow 18 = .ok (.iload_n 2, 1) := by decide +kernel
theorem dX11_copyRow_19 : decode cX11_copyRow 19 = .ok (.imul, 1) := by decide +kernel
theorem dX11_copyRow_20 : decode cX11_copyRow 20 = .ok (.iload 4, 2) := by decide +kernel
theorem dX11_copyRow_22 : decode cX11_copyRow 22 = .ok (.iadd, 1) := by decide +kernel
theorem dX11_copyRow_23 : decode cX11_copyRow 23 = .ok (.iaload, 1) := by decide +kernel
theorem dX11_copyRow_24 : decode cX11_copyRow 24 = .ok (.iastore, 1) := by decide +kernel
theorem dX11_copyRow_25 : decode cX11_copyRow 25 = .ok (.iinc 4 1, 3) := by decide +kernel
theorem dX11_copyRow_28 : decode cX11_copyRow 28 = .ok (.goto (-25), 3) := by decide +kernel
theorem dX11_copyRow_31 : decode cX11_copyRow 31 = .ok (.return_, 1) := by decide +kernel
def F_X11_copyRow (j nn : Nat) (X Y : Nat → Int → Int) (R : Nat → Int → Option Nat) (b : Int) (g : Int) (d : Int) : Prop := (∀ i j, rI (X i j)) → (∀ i j, rL (Y i j)) → ((0 ≤ ((0 : Int)) ∧ (((0 : Int)) ≤ b ∨ ((0 : Int)) = 0)) ∧ (∀ zz, zz ≠ j → X zz = X zz) ∧ (∀ y, 0 ≤ y → y < ((0 : Int)) → X j (b * d + y) = X j (b * g + y)) ∧ ∀ y, (y < b * d ∨ b * d + ((0 : Int)) ≤ y) → X j y = X j y) ∧ (∀ (k : Int) (X2 : Nat → Int → Int), rI k → (∀ i j, rI (X2 i j)) → ((0 ≤ (k) ∧ ((k) ≤ b ∨ (k) = 0)) ∧ (∀ zz, zz ≠ j → X2 zz = X zz) ∧ (∀ y, 0 ≤ y → y < (k) → X2 j (b * d + y) = X j (b * g + y)) ∧ ∀ y, (y < b * d ∨ b * d + (k) ≤ y) → X2 j y = X j y) → (((b ≤ k) → (crP X (X2) (j) b (g) (d))) ∧ ((¬ (b ≤ k)) → ((0 ≤ ((b * g) + k) ∧ ((b * g) + k) < ((nn : Nat) : Int)) ∧ ((0 ≤ ((b * d) + k) ∧ ((b * d) + k) < ((nn : Nat) : Int)) ∧ (∀ X6 : Nat → Int → Int, X6 = zU X2 (j) ((b * d) + k) (X2 (j) ((b * g) + k)) → (∀ i j, rI (X6 i j)) → ((rI (k + 1)) ∧ ((0 ≤ (k + 1) ∧ ((k + 1) ≤ b ∨ (k + 1) = 0)) ∧ (∀ zz, zz ≠ j → X6 zz = X zz) ∧ (∀ y, 0 ≤ y → y < (k + 1) → X6 j (b * d + y) = X j (b * g + y)) ∧ ∀ y, (y < b * d ∨ b * d + (k + 1) ≤ y) → X6 j y = X j y) ∧ (((b - (k + 1)).toNat) < ((b - (k)).toNat)))))))))
set_option maxHeartbeats 4000000 in
set_option maxRecDepth 100000 in
theorem w_X11_copyRow {l : Launch} {D : va_G} {cy : Nat → ClassId} {bs N : Nat} {sa : Nat → Nat} {kd len : Nat → Nat} {X Y : Nat → Int → Int} {R : Nat → Int → Option Nat} {j nn : Nat} (jn : j < N) (jk : kd j = 13) (jl : len j = nn) (js : len j < 2147483648) (b : Int) (hb : rI b) (g : Int) (hg : rI g) (d : Int) (hd : rI d) (hF : F_X11_copyRow j nn X Y R b g d) : Met l yX11_copyRow (.code yX11_copyRow cX11_copyRow 5 none :: zTB) (zRm 0 0) (zPc D cy bs sa N kd len X Y R [.ref (bs + (j)), .int (zI (b)), .int (zI (g)), .int (zI (d))]) (zQv D cy bs N kd len (fun st => st.2.1 = Y ∧ st.2.2 = R ∧ (crP X (st.1) (j) b (g) (d)))) 0 0 (zA bs) := by
  refine zstart (by decide) (Nat.le_of_ble_eq_true rfl) ?_
  intro p e s m args below meth c ls C hE hH hr hlk hnm hl hargs
  have hF := hF hH.2.2.1 hH.2.2.2
  have hS : va_S (zA bs) s.heap s.heap [] := va_S.rf
  have hl : lv_has ls 5 [(0, .ref (bs + (j))), (1, .int (zI (b))), (2, .int (zI (g))), (3, .int (zI (d)))] := hl
  refine zd_iconst C dX11_copyRow_0 ?_
  refine lv_istore (lv' := [(4, .int (zI (0))), (0, .ref (bs + (j))), (1, .int (zI (b))), (2, .int (zI (g))), (3, .int (zI (d)))]) C.1 C.2.1 dX11_copyRow_1 hl (by decide) rfl (fun ls hl => ?_)
  obtain ⟨hI1, hF⟩ := hF
  have L1 : ∀ (fu : Nat) (k : Int) (X2 : Nat → Int → Int), rI k → ((0 ≤ (k) ∧ ((k) ≤ b ∨ (k) = 0)) ∧ (∀ zz, zz ≠ j → X2 zz = X zz) ∧ (∀ y, 0 ≤ y → y < (k) → X2 j (b * d + y) = X j (b * g + y)) ∧ ∀ y, (y < b * d ∨ b * d + (k) ≤ y) → X2 j y = X j y) → ((b - (k)).toNat) < fu → ∀ (H : Heap) (locs : List Loc) (ls : Array Slot), zH D cy bs N kd len X2 Y R H → va_S (zA bs) s.heap H locs → lv_has ls 5 [(4, .int (zI (k))), (0, .ref (bs + (j))), (1, .int (zI (b))), (2, .int (zI (g))), (3, .int (zI (d)))] → W p l e (zRm 0 0) s m args below meth c H locs 0 0 (MQ below (zQv D cy bs N kd len (fun st => st.2.1 = Y ∧ st.2.2 = R ∧ (crP X (st.1) (j) b (g) (d)))) args s 0 0 (zA bs)) (F0 m 3 ls []) := by
    intro fu
    induction fu with
    | zero => intro k X2 _ _ hmu; exact absurd hmu (Nat.not_lt_zero _)
    | succ fu ih1 =>
      intro k X2 hk hI hmu1 H locs ls hH hS hl
      have hF := hF k X2 hk hH.2.2.1 hI
      refine lv_iload C.1 C.2.1 dX11_copyRow_3 (lv_at hl 0 rfl) ?_
      refine lv_iload_n C.1 C.2.1 dX11_copyRow_5 rfl (lv_at hl 2 rfl) ?_
      refine zd_icmp_ge C hk hb 31 dX11_copyRow_6 (by decide) (fun c3 => ?_) (fun c3 => ?_)
      · have hF := hF.1 c3
        exact zd_vret C hr hlk hH hS (⟨rfl, rfl, hF⟩) dX11_copyRow_31
      · have hF := hF.2 c3
        refine lv_aload_n C.1 C.2.1 dX11_copyRow_9 rfl (lv_at hl 1 rfl) ?_
        refine lv_iload_n C.1 C.2.1 dX11_copyRow_10 rfl (lv_at hl 2 rfl) ?_
        refine lv_iload_n C.1 C.2.1 dX11_copyRow_11 rfl (lv_at hl 4 rfl) ?_
        refine zd_imul C dX11_copyRow_12 ?_
        refine lv_iload C.1 C.2.1 dX11_copyRow_13 (lv_at hl 0 rfl) ?_
        refine zd_iadd C dX11_copyRow_15 ?_
        refine lv_aload_n C.1 C.2.1 dX11_copyRow_16 rfl (lv_at hl 1 rfl) ?_
        refine lv_iload_n C.1 C.2.1 dX11_copyRow_17 rfl (lv_at hl 2 rfl) ?_
        refine lv_iload_n C.1 C.2.1 dX11_copyRow_18 rfl (lv_at hl 3 rfl) ?_
        refine zd_imul C dX11_copyRow_19 ?_
        refine lv_iload C.1 C.2.1 dX11_copyRow_20 (lv_at hl 0 rfl) ?_
        refine zd_iadd C dX11_copyRow_22 ?_
        obtain ⟨o4, hF⟩ := hF
        refine zd_iald C hH jn jk o4.1 (by rw [jl]; exact o4.2) js dX11_copyRow_23 ?_
        obtain ⟨o5, hF⟩ := hF
        refine zd_iast C hH hS jn jk o5.1 (by rw [jl]; exact o5.2) js (hH.2.2.1 _ _) dX11_copyRow_24 (fun H locs hH hS => ?_)
        obtain ⟨X6, eX6⟩ : ∃ z, z = zU X2 (j) ((b * d) + k) (X2 (j) ((b * g) + k)) := ⟨_, rfl⟩
        rw [← eX6] at hH
        have hF := hF X6 eX6 hH.2.2.1
        refine zd_iinc (k := 0) (lv' := [(4, .int (zI (k + 1))), (0, .ref (bs + (j))), (1, .int (zI (b))), (2, .int (zI (g))), (3, .int (zI (d)))]) C hl rfl dX11_copyRow_25 (by decide) rfl (fun ls hl => ?_)
        refine lv_goto (tgt := 3) C.1 C.2.1 dX11_copyRow_28 (by decide) ?_
        obtain ⟨o7, hF⟩ := hF
        exact ih1 (k + 1) X6 o7 hF.1 (Nat.lt_of_lt_of_le hF.2 (Nat.le_of_lt_succ hmu1)) _ _ _ hH hS (lv_sub hl [0, 1, 2, 3, 4] rfl)
  exact L1 (((b - ((0 : Int))).toNat) + 1) ((0 : Int)) X (by decide) hI1 (Nat.lt_succ_self _) _ _ _ hH hS (lv_sub hl [0, 1, 2, 3, 4] rfl)
theorem v_X11_copyRow {X Y : Nat → Int → Int} {R : Nat → Int → Option Nat} {j nn : Nat} (b : Int) (hb : rI b) (g : Int) (hg : rI g) (d : Int) (hd : rI d) (hp : (0 ≤ b * (g) ∧ 0 ≤ b * (d)) ∧ (b * (g) + b ≤ ((nn : Nat) : Int) ∧ b * (d) + b ≤ ((nn : Nat) : Int) ∧ ((nn : Nat) : Int) ≤ 100000) ∧ (b * (g) + b ≤ b * (d) ∨ b * (d) + b ≤ b * (g))) : F_X11_copyRow j nn X Y R b g d := by
  unfold F_X11_copyRow
  intro hX hY
  obtain ⟨h0, h1, h2⟩ := hp
  refine ⟨?_, ?_⟩
  · exact ⟨⟨by decide, Or.inr rfl⟩, fun _ _ => rfl, fun y y0 y1 => by omega, fun _ _ => rfl⟩
  intro k X2
  intro _
  intro rX2
  intro h1
  obtain ⟨hk, hz, hr, ho⟩ := h1
  refine ⟨?_, ?_⟩
  · intro c1
    exact ⟨hz, fun y y0 y1 => hr y y0 (by omega), fun y hy => ho y (by omega)⟩
  intro c2
  refine ⟨?_, ?_⟩
  · first | omega | exact ⟨by omega, by omega⟩ | decide | assumption | exact ⟨by omega, by omega, by omega⟩ | exact ⟨by decide, by decide⟩
  refine ⟨?_, ?_⟩
  · first | omega | exact ⟨by omega, by omega⟩ | decide | assumption | exact ⟨by omega, by omega, by omega⟩ | exact ⟨by decide, by decide⟩
  intro X6
  intro eX6
  intro rX6
  refine ⟨?_, ?_⟩
  · first | omega | exact ⟨by omega, by omega⟩ | decide | assumption | exact ⟨by omega, by omega, by omega⟩ | exact ⟨by decide, by decide⟩
  refine ⟨?_, ?_⟩
  · refine ⟨⟨by omega, by omega⟩, fun zz hzz => by rw [eX6, zU_o hzz]; exact hz zz hzz, fun y y0 y1 => ?_, fun y hy => by rw [eX6, zU_n (by omega)]; exact ho y (by omega)⟩
    rw [eX6]
    by_cases e : y = k
    · rw [e, zU_s, ho _ (by omega)]
    · rw [zU_n (by omega)]
      exact hr y y0 (by omega)
  first | omega | exact ⟨by omega, by omega⟩ | decide | assumption | exact ⟨by omega, by omega, by omega⟩ | exact ⟨by decide, by decide⟩
theorem c_X11_copyRow {l : Launch} {D : va_G} {cy : Nat → ClassId} {bs N : Nat} {sa : Nat → Nat} {kd len : Nat → Nat} {X Y : Nat → Int → Int} {R : Nat → Int → Option Nat} {j nn : Nat} (jn : j < N) (jk : kd j = 13) (jl : len j = nn) (js : len j < 2147483648) (b : Int) (hb : rI b) (g : Int) (hg : rI g) (d : Int) (hd : rI d) (hp : (0 ≤ b * (g) ∧ 0 ≤ b * (d)) ∧ (b * (g) + b ≤ ((nn : Nat) : Int) ∧ b * (d) + b ≤ ((nn : Nat) : Int) ∧ ((nn : Nat) : Int) ≤ 100000) ∧ (b * (g) + b ≤ b * (d) ∨ b * (d) + b ≤ b * (g))) : Met l yX11_copyRow (.code yX11_copyRow cX11_copyRow 5 none :: zTB) (zRm 0 0) (zPc D cy bs sa N kd len X Y R [.ref (bs + (j)), .int (zI (b)), .int (zI (g)), .int (zI (d))]) (zQv D cy bs N kd len (fun st => st.2.1 = Y ∧ st.2.2 = R ∧ (crP X (st.1) (j) b (g) (d)))) 0 0 (zA bs) := w_X11_copyRow jn jk jl js b hb g hg d hd (v_X11_copyRow b hb g hg d hd hp)
abbrev cX11_copyAll : ByteArray := prog_13_method_9_code
def yX11_copyAll : MethodName := ⟨RX11, "copyAll", "(II)V"⟩
theorem dX11_copyAll_0 : decode cX11_copyAll 0 = .ok (.iconst 0, 1) := by decide +kernel
theorem dX11_copyAll_1 : decode cX11_copyAll 1 = .ok (.istore_n 3, 1) := by decide +kernel
theorem dX11_copyAll_2 : decode cX11_copyAll 2 = .ok (.iload_n 3, 1) := by decide +kernel
theorem dX11_copyAll_3 : decode cX11_copyAll 3 = .ok (.sipush 600, 3) := by decide +kernel
theorem dX11_copyAll_6 : decode cX11_copyAll 6 = .ok (.if_icmp .ge 33, 3) := by decide +kernel
theorem dX11_copyAll_9 : decode cX11_copyAll 9 = .ok (.aload_n 0, 1) := by decide +kernel
theorem dX11_copyAll_10 : decode cX11_copyAll 10 = .ok (.getfield 7, 3) := by decide +kernel
theorem dX11_copyAll_13 : decode cX11_copyAll 13 = .ok (.sipush 600, 3) := by decide +kernel
theorem dX11_copyAll_16 : decode cX11_copyAll 16 = .ok (.iload_n 2, 1) := by decide +kernel
theorem dX11_copyAll_17 : decode cX11_copyAll 17 = .ok (.imul, 1) := by decide +kernel
theorem dX11_copyAll_18 : decode cX11_copyAll 18 = .ok (.iload_n 3, 1) := by decide +kernel
theorem dX11_copyAll_19 : decode cX11_copyAll 19 = .ok (.iadd, 1) := by decide +kernel
theorem dX11_copyAll_20 : decode cX11_copyAll 20 = .ok (.aload_n 0, 1) := by decide +kernel
theorem dX11_copyAll_21 : decode cX11_copyAll 21 = .ok (.getfield 7, 3) := by decide +kernel
theorem dX11_copyAll_24 : decode cX11_copyAll 24 = .ok (.sipush 600, 3) := by decide +kernel
theorem dX11_copyAll_27 : decode cX11_copyAll 27 = .ok (.iload_n 1, 1) := by decide +kernel
theorem dX11_copyAll_28 : decode cX11_copyAll 28 = .ok (.imul, 1) := by decide +kernel
theorem dX11_copyAll_29 : decode cX11_copyAll 29 = .ok (.iload_n 3, 1) := by decide +kernel
theorem dX11_copyAll_30 : decode cX11_copyAll 30 = .ok (.iadd, 1) := by decide +kernel
theorem dX11_copyAll_31 : decode cX11_copyAll 31 = .ok (.baload, 1) := by decide +kernel
theorem dX11_copyAll_32 : decode cX11_copyAll 32 = .ok (.bastore, 1) := by decide +kernel
theorem dX11_copyAll_33 : decode cX11_copyAll 33 = .ok (.iinc 3 1, 3) := by decide +kernel
theorem dX11_copyAll_36 : decode cX11_copyAll 36 = .ok (.goto (-34), 3) := by decide +kernel
theorem dX11_copyAll_39 : decode cX11_copyAll 39 = .ok (.aload_n 0, 1) := by decide +kernel
theorem dX11_copyAll_40 : decode cX11_copyAll 40 = .ok (.getfield 13, 3) := by decide +kernel
theorem dX11_copyAll_43 : decode cX11_copyAll 43 = .ok (.iconst 1, 1) := by decide +kernel
theorem dX11_copyAll_44 : decode cX11_copyAll 44 = .ok (.iload_n 1, 1) := by decide +kernel
theorem dX11_copyAll_45 : decode cX11_copyAll 45 = .ok (.iload_n 2, 1) := by decide +kernel
theorem dX11_copyAll_46 : decode cX11_copyAll 46 = .ok (.invokestatic 96, 3) := by decide +kernel
theorem dX11_copyAll_49 : decode cX11_copyAll 49 = .ok (.aload_n 0, 1) := by decide +kernel
theorem dX11_copyAll_50 : decode cX11_copyAll 50 = .ok (.getfield 17, 3) := by decide +kernel
theorem dX11_copyAll_53 : decode cX11_copyAll 53 = .ok (.iconst 1, 1) := by decide +kernel
theorem dX11_copyAll_54 : decode cX11_copyAll 54 = .ok (.iload_n 1, 1) := by decide +kernel
theorem dX11_copyAll_55 : decode cX11_copyAll 55 = .ok (.iload_n 2, 1) := by decide +kernel
theorem dX11_copyAll_56 : decode cX11_copyAll 56 = .ok (.invokestatic 96, 3) := by decide +kernel
theorem dX11_copyAll_59 : decode cX11_copyAll 59 = .ok (.aload_n 0, 1) := by decide +kernel
theorem dX11_copyAll_60 : decode cX11_copyAll 60 = .ok (.getfield 20, 3) := by decide +kernel
theorem dX11_copyAll_63 : decode cX11_copyAll 63 = .ok (.iconst 1, 1) := by decide +kernel
theorem dX11_copyAll_64 : decode cX11_copyAll 64 = .ok (.iload_n 1, 1) := by decide +kernel
theorem dX11_copyAll_65 : decode cX11_copyAll 65 = .ok (.iload_n 2, 1) := by decide +kernel
theorem dX11_copyAll_66 : decode cX11_copyAll 66 = .ok (.invokestatic 96, 3) := by decide +kernel
theorem dX11_copyAll_69 : decode cX11_copyAll 69 = .ok (.aload_n 0, 1) := by decide +kernel
theorem dX11_copyAll_70 : decode cX11_copyAll 70 = .ok (.getfield 23, 3) := by decide +kernel
theorem dX11_copyAll_73 : decode cX11_copyAll 73 = .ok (.iconst 5, 1) := by decide +kernel
theorem dX11_copyAll_74 : decode cX11_copyAll 74 = .ok (.iload_n 1, 1) := by decide +kernel
theorem dX11_copyAll_75 : decode cX11_copyAll 75 = .ok (.iload_n 2, 1) := by decide +kernel
theorem dX11_copyAll_76 : decode cX11_copyAll 76 = .ok (.invokestatic 96, 3) := by decide +kernel
theorem dX11_copyAll_79 : decode cX11_copyAll 79 = .ok (.aload_n 0, 1) := by decide +kernel
theorem dX11_copyAll_80 : decode cX11_copyAll 80 = .ok (.getfield 26, 3) := by decide +kernel
theorem dX11_copyAll_83 : decode cX11_copyAll 83 = .ok (.bipush 26, 2) := by decide +kernel
theorem dX11_copyAll_85 : decode cX11_copyAll 85 = .ok (.iload_n 1, 1) := by decide +kernel
theorem dX11_copyAll_86 : decode cX11_copyAll 86 = .ok (.iload_n 2, 1) := by decide +kernel
theorem dX11_copyAll_87 : decode cX11_copyAll 87 = .ok (.invokestatic 96, 3) := by decide +kernel
theorem dX11_copyAll_90 : decode cX11_copyAll 90 = .ok (.aload_n 0, 1) := by decide +kernel
theorem dX11_copyAll_91 : decode cX11_copyAll 91 = .ok (.getfield 29, 3) := by decide +kernel
theorem dX11_copyAll_94 : decode cX11_copyAll 94 = .ok (.sipush 366, 3) := by decide +kernel
theorem dX11_copyAll_97 : decode cX11_copyAll 97 = .ok (.iload_n 1, 1) := by decide +kernel
theorem dX11_copyAll_98 : decode cX11_copyAll 98 = .ok (.iload_n 2, 1) := by decide +kernel
theorem dX11_copyAll_99 : decode cX11_copyAll 99 = .ok (.invokestatic 96, 3) := by decide +kernel
theorem dX11_copyAll_102 : decode cX11_copyAll 102 = .ok (.aload_n 0, 1) := by decide +kernel
theorem dX11_copyAll_103 : decode cX11_copyAll 103 = .ok (.getfield 32, 3) := by decide +kernel
theorem dX11_copyAll_106 : decode cX11_copyAll 106 = .ok (.sipush 162, 3) := by decide +kernel
theorem dX11_copyAll_109 : decode cX11_copyAll 109 = .ok (.iload_n 1, 1) := by decide +kernel
theorem dX11_copyAll_110 : decode cX11_copyAll 110 = .ok (.iload_n 2, 1) := by decide +kernel
theorem dX11_copyAll_111 : decode cX11_copyAll 111 = .ok (.invokestatic 96, 3) := by decide +kernel
theorem dX11_copyAll_114 : decode cX11_copyAll 114 = .ok (.aload_n 0, 1) := by decide +kernel
theorem dX11_copyAll_115 : decode cX11_copyAll 115 = .ok (.getfield 35, 3) := by decide +kernel
theorem dX11_copyAll_118 : decode cX11_copyAll 118 = .ok (.bipush 34, 2) := by decide +kernel
theorem dX11_copyAll_120 : decode cX11_copyAll 120 = .ok (.iload_n 1, 1) := by decide +kernel
theorem dX11_copyAll_121 : decode cX11_copyAll 121 = .ok (.iload_n 2, 1) := by decide +kernel
theorem dX11_copyAll_122 : decode cX11_copyAll 122 = .ok (.invokestatic 96, 3) := by decide +kernel
theorem dX11_copyAll_125 : decode cX11_copyAll 125 = .ok (.aload_n 0, 1) := by decide +kernel
theorem dX11_copyAll_126 : decode cX11_copyAll 126 = .ok (.getfield 38, 3) := by decide +kernel
theorem dX11_copyAll_129 : decode cX11_copyAll 129 = .ok (.bipush 50, 2) := by decide +kernel
theorem dX11_copyAll_131 : decode cX11_copyAll 131 = .ok (.iload_n 1, 1) := by decide +kernel
theorem dX11_copyAll_132 : decode cX11_copyAll 132 = .ok (.iload_n 2, 1) := by decide +kernel
theorem dX11_copyAll_133 : decode cX11_copyAll 133 = .ok (.invokestatic 96, 3) := by decide +kernel
theorem dX11_copyAll_136 : decode cX11_copyAll 136 = .ok (.return_, 1) := by decide +kernel
theorem q_2037 : Cond.static yX11_copyRow ∈ zTB := zmem 2037 (by decide +kernel) rfl
theorem q_2038 : Cond.code yX11_copyRow cX11_copyRow 5 none ∈ zTB := zmem 2038 (by decide +kernel) rfl
theorem q_2036 : Cond.methodLink RX11 96 yX11_copyRow ∈ zTB := zmem 2036 (by decide +kernel) rfl
theorem k_RX11_96 : zLs RX11 96 yX11_copyRow cX11_copyRow 5 none 4 := ⟨⟨q_2036, q_2037, q_140, q_2038⟩, ⟨by decide, by decide⟩, by decide +kernel⟩
theorem q_1288 : Cond.fieldLink RX11 7 RX11 "tape" "[B" ∈ zTB := zmem 1288 (by decide +kernel) rfl
def F_X11_copyAll (i : Nat) (X Y : Nat → Int → Int) (R : Nat → Int → Option Nat) (a : Int) (b : Int) : Prop := (∀ i j, rI (X i j)) → (∀ i j, rL (Y i j)) → ((0 ≤ ((0 : Int)) ∧ ((0 : Int)) ≤ 600) ∧ (∀ zz, zz ≠ i + 1 → X zz = X zz) ∧ (∀ y, 0 ≤ y → y < ((0 : Int)) → X (i + 1) (600 * b + y) = X (i + 1) (600 * a + y)) ∧ ∀ y, (y < 600 * b ∨ 600 * b + ((0 : Int)) ≤ y) → X (i + 1) y = X (i + 1) y) ∧ (∀ (k : Int) (X2 : Nat → Int → Int), rI k → (∀ i j, rI (X2 i j)) → ((0 ≤ (k) ∧ (k) ≤ 600) ∧ (∀ zz, zz ≠ i + 1 → X2 zz = X zz) ∧ (∀ y, 0 ≤ y → y < (k) → X2 (i + 1) (600 * b + y) = X (i + 1) (600 * a + y)) ∧ ∀ y, (y < 600 * b ∨ 600 * b + (k) ≤ y) → X2 (i + 1) y = X (i + 1) y) → (((600 ≤ k) → (((0 ≤ (1 : Int) * (a) ∧ 0 ≤ (1 : Int) * (b)) ∧ ((1 : Int) * (a) + (1 : Int) ≤ ((4 : Nat) : Int) ∧ (1 : Int) * (b) + (1 : Int) ≤ ((4 : Nat) : Int) ∧ ((4 : Nat) : Int) ≤ 100000) ∧ ((1 : Int) * (a) + (1 : Int) ≤ (1 : Int) * (b) ∨ (1 : Int) * (b) + (1 : Int) ≤ (1 : Int) * (a))) ∧ (∀ X5 : Nat → Int → Int, (∀ i j, rI (X5 i j)) → (crP X2 (X5) (i + 2) (1 : Int) (a) (b)) → (((0 ≤ (1 : Int) * (a) ∧ 0 ≤ (1 : Int) * (b)) ∧ ((1 : Int) * (a) + (1 : Int) ≤ ((4 : Nat) : Int) ∧ (1 : Int) * (b) + (1 : Int) ≤ ((4 : Nat) : Int) ∧ ((4 : Nat) : Int) ≤ 100000) ∧ ((1 : Int) * (a) + (1 : Int) ≤ (1 : Int) * (b) ∨ (1 : Int) * (b) + (1 : Int) ≤ (1 : Int) * (a))) ∧ (∀ X7 : Nat → Int → Int, (∀ i j, rI (X7 i j)) → (crP X5 (X7) (i + 3) (1 : Int) (a) (b)) → (((0 ≤ (1 : Int) * (a) ∧ 0 ≤ (1 : Int) * (b)) ∧ ((1 : Int) * (a) + (1 : Int) ≤ ((4 : Nat) : Int) ∧ (1 : Int) * (b) + (1 : Int) ≤ ((4 : Nat) : Int) ∧ ((4 : Nat) : Int) ≤ 100000) ∧ ((1 : Int) * (a) + (1 : Int) ≤ (1 : Int) * (b) ∨ (1 : Int) * (b) + (1 : Int) ≤ (1 : Int) * (a))) ∧ (∀ X9 : Nat → Int → Int, (∀ i j, rI (X9 i j)) → (crP X7 (X9) (i + 4) (1 : Int) (a) (b)) → (((0 ≤ (5 : Int) * (a) ∧ 0 ≤ (5 : Int) * (b)) ∧ ((5 : Int) * (a) + (5 : Int) ≤ ((20 : Nat) : Int) ∧ (5 : Int) * (b) + (5 : Int) ≤ ((20 : Nat) : Int) ∧ ((20 : Nat) : Int) ≤ 100000) ∧ ((5 : Int) * (a) + (5 : Int) ≤ (5 : Int) * (b) ∨ (5 : Int) * (b) + (5 : Int) ≤ (5 : Int) * (a))) ∧ (∀ X11 : Nat → Int → Int, (∀ i j, rI (X11 i j)) → (crP X9 (X11) (i + 5) (5 : Int) (a) (b)) → (((0 ≤ (26 : Int) * (a) ∧ 0 ≤ (26 : Int) * (b)) ∧ ((26 : Int) * (a) + (26 : Int) ≤ ((104 : Nat) : Int) ∧ (26 : Int) * (b) + (26 : Int) ≤ ((104 : Nat) : Int) ∧ ((104 : Nat) : Int) ≤ 100000) ∧ ((26 : Int) * (a) + (26 : Int) ≤ (26 : Int) * (b) ∨ (26 : Int) * (b) + (26 : Int) ≤ (26 : Int) * (a))) ∧ (∀ X13 : Nat → Int → Int, (∀ i j, rI (X13 i j)) → (crP X11 (X13) (i + 6) (26 : Int) (a) (b)) → (((0 ≤ (366 : Int) * (a) ∧ 0 ≤ (366 : Int) * (b)) ∧ ((366 : Int) * (a) + (366 : Int) ≤ ((1464 : Nat) : Int) ∧ (366 : Int) * (b) + (366 : Int) ≤ ((1464 : Nat) : Int) ∧ ((1464 : Nat) : Int) ≤ 100000) ∧ ((366 : Int) * (a) + (366 : Int) ≤ (366 : Int) * (b) ∨ (366 : Int) * (b) + (366 : Int) ≤ (366 : Int) * (a))) ∧ (∀ X15 : Nat → Int → Int, (∀ i j, rI (X15 i j)) → (crP X13 (X15) (i + 7) (366 : Int) (a) (b)) → (((0 ≤ (162 : Int) * (a) ∧ 0 ≤ (162 : Int) * (b)) ∧ ((162 : Int) * (a) + (162 : Int) ≤ ((648 : Nat) : Int) ∧ (162 : Int) * (b) + (162 : Int) ≤ ((648 : Nat) : Int) ∧ ((648 : Nat) : Int) ≤ 100000) ∧ ((162 : Int) * (a) + (162 : Int) ≤ (162 : Int) * (b) ∨ (162 : Int) * (b) + (162 : Int) ≤ (162 : Int) * (a))) ∧ (∀ X17 : Nat → Int → Int, (∀ i j, rI (X17 i j)) → (crP X15 (X17) (i + 8) (162 : Int) (a) (b)) → (((0 ≤ (34 : Int) * (a) ∧ 0 ≤ (34 : Int) * (b)) ∧ ((34 : Int) * (a) + (34 : Int) ≤ ((136 : Nat) : Int) ∧ (34 : Int) * (b) + (34 : Int) ≤ ((136 : Nat) : Int) ∧ ((136 : Nat) : Int) ≤ 100000) ∧ ((34 : Int) * (a) + (34 : Int) ≤ (34 : Int) * (b) ∨ (34 : Int) * (b) + (34 : Int) ≤ (34 : Int) * (a))) ∧ (∀ X19 : Nat → Int → Int, (∀ i j, rI (X19 i j)) → (crP X17 (X19) (i + 9) (34 : Int) (a) (b)) → (((0 ≤ (50 : Int) * (a) ∧ 0 ≤ (50 : Int) * (b)) ∧ ((50 : Int) * (a) + (50 : Int) ≤ ((200 : Nat) : Int) ∧ (50 : Int) * (b) + (50 : Int) ≤ ((200 : Nat) : Int) ∧ ((200 : Nat) : Int) ≤ 100000) ∧ ((50 : Int) * (a) + (50 : Int) ≤ (50 : Int) * (b) ∨ (50 : Int) * (b) + (50 : Int) ≤ (50 : Int) * (a))) ∧ (∀ X21 : Nat → Int → Int, (∀ i j, rI (X21 i j)) → (crP X19 (X21) (i + 10) (50 : Int) (a) (b)) → (cpI X (X21) i (a) (b))))))))))))))))))))) ∧ ((¬ (600 ≤ k)) → ((0 ≤ ((600 * a) + k) ∧ ((600 * a) + k) < 2400) ∧ ((0 ≤ ((600 * b) + k) ∧ ((600 * b) + k) < 2400) ∧ ((-128 ≤ X2 (i + 1) ((600 * a) + k) ∧ X2 (i + 1) ((600 * a) + k) ≤ 127) ∧ (∀ X25 : Nat → Int → Int, X25 = zU X2 (i + 1) ((600 * b) + k) (X2 (i + 1) ((600 * a) + k)) → (∀ i j, rI (X25 i j)) → ((rI (k + 1)) ∧ ((0 ≤ (k + 1) ∧ (k + 1) ≤ 600) ∧ (∀ zz, zz ≠ i + 1 → X25 zz = X zz) ∧ (∀ y, 0 ≤ y → y < (k + 1) → X25 (i + 1) (600 * b + y) = X (i + 1) (600 * a + y)) ∧ ∀ y, (y < 600 * b ∨ 600 * b + (k + 1) ≤ y) → X25 (i + 1) y = X (i + 1) y) ∧ (((600 - (k + 1)).toNat) < ((600 - (k)).toNat))))))))))
set_option maxHeartbeats 4000000 in
set_option maxRecDepth 100000 in
theorem w_X11_copyAll {l : Launch} {D : va_G} {cy : Nat → ClassId} {bs N : Nat} {sa : Nat → Nat} {kd len : Nat → Nat} {X Y : Nat → Int → Int} {R : Nat → Int → Option Nat} {i : Nat} (hM : zM N kd len R i) (a : Int) (ha : rI a) (b : Int) (hb : rI b) (hF : F_X11_copyAll i X Y R a b) : Met l yX11_copyAll (.code yX11_copyAll cX11_copyAll 4 none :: zTB) (zRm 1 24) (zPc D cy bs sa N kd len X Y R [.ref (bs + (i)), .int (zI (a)), .int (zI (b))]) (zQv D cy bs N kd len (fun st => st.2.1 = Y ∧ st.2.2 = R ∧ (cpI X (st.1) i (a) (b)))) 0 0 (zA bs) := by
  refine zstart (by decide) (Nat.le_of_ble_eq_true rfl) ?_
  intro p e s m args below meth c ls C hE hH hr hlk hnm hl hargs
  have hF := hF hH.2.2.1 hH.2.2.2
  have hS : va_S (zA bs) s.heap s.heap [] := va_S.rf
  have hl : lv_has ls 4 [(0, .ref (bs + (i))), (1, .int (zI (a))), (2, .int (zI (b)))] := hl
  refine zd_iconst C dX11_copyAll_0 ?_
  refine lv_istore_n (lv' := [(3, .int (zI (0))), (0, .ref (bs + (i))), (1, .int (zI (a))), (2, .int (zI (b)))]) C.1 C.2.1 dX11_copyAll_1 rfl hl (by decide) rfl (fun ls hl => ?_)
  obtain ⟨hI1, hF⟩ := hF
  have L1 : ∀ (fu : Nat) (k : Int) (X2 : Nat → Int → Int), rI k → ((0 ≤ (k) ∧ (k) ≤ 600) ∧ (∀ zz, zz ≠ i + 1 → X2 zz = X zz) ∧ (∀ y, 0 ≤ y → y < (k) → X2 (i + 1) (600 * b + y) = X (i + 1) (600 * a + y)) ∧ ∀ y, (y < 600 * b ∨ 600 * b + (k) ≤ y) → X2 (i + 1) y = X (i + 1) y) → ((600 - (k)).toNat) < fu → ∀ (H : Heap) (locs : List Loc) (ls : Array Slot), zH D cy bs N kd len X2 Y R H → va_S (zA bs) s.heap H locs → lv_has ls 4 [(3, .int (zI (k))), (0, .ref (bs + (i))), (1, .int (zI (a))), (2, .int (zI (b)))] → W p l e (zRm 1 24) s m args below meth c H locs 0 0 (MQ below (zQv D cy bs N kd len (fun st => st.2.1 = Y ∧ st.2.2 = R ∧ (cpI X (st.1) i (a) (b)))) args s 0 0 (zA bs)) (F0 m 2 ls []) := by
    intro fu
    induction fu with
    | zero => intro k X2 _ _ hmu; exact absurd hmu (Nat.not_lt_zero _)
    | succ fu ih1 =>
      intro k X2 hk hI hmu1 H locs ls hH hS hl
      have hF := hF k X2 hk hH.2.2.1 hI
      refine lv_iload_n C.1 C.2.1 dX11_copyAll_2 rfl (lv_at hl 0 rfl) ?_
      refine zd_sipush C (by decide) dX11_copyAll_3 ?_
      refine zd_icmp_ge C hk (by decide) 39 dX11_copyAll_6 (by decide) (fun c3 => ?_) (fun c3 => ?_)
      · have hF := hF.1 c3
        refine lv_aload_n C.1 C.2.1 dX11_copyAll_39 rfl (lv_at hl 1 rfl) ?_
        refine zg11_2 C hH (zM_n0 hM) (zM_k0 hM) q_1289 (zM_r2 hM) dX11_copyAll_40 ?_
        refine zd_iconst C dX11_copyAll_43 ?_
        refine lv_iload_n C.1 C.2.1 dX11_copyAll_44 rfl (lv_at hl 2 rfl) ?_
        refine lv_iload_n C.1 C.2.1 dX11_copyAll_45 rfl (lv_at hl 3 rfl) ?_
        obtain ⟨o4, hF⟩ := hF
        refine zgov (zrunS (As := [.ref (bs + (i + 2)), .int (zI (1)), .int (zI (a)), .int (zI (b))]) (rest := []) C hE hH hS hl.1 (c_X11_copyRow (l := l) (zM_n2 hM) (zM_k2 hM) (zM_l2 hM) (by rw [zM_l2 hM]; decide) (1) (by decide) (a) ha (b) hb o4) k_RX11_96 ⟨Nat.le_of_ble_eq_true rfl, Nat.le_of_ble_eq_true rfl⟩ rfl (Nat.le_of_ble_eq_true rfl) dX11_copyAll_46 ⟨Nat.zero_le _, Nat.zero_le _⟩) hS (fun X5 Yq Rq H locs hq hH hS => ?_)
        obtain ⟨h9Y, h9R, hq⟩ := hq
        dsimp only at h9Y h9R
        rw [h9Y, h9R] at hH
        have hF := hF X5 hH.2.2.1 hq
        refine lv_aload_n C.1 C.2.1 dX11_copyAll_49 rfl (lv_at hl 1 rfl) ?_
        refine zg11_3 C hH (zM_n0 hM) (zM_k0 hM) q_1290 (zM_r3 hM) dX11_copyAll_50 ?_
        refine zd_iconst C dX11_copyAll_53 ?_
        refine lv_iload_n C.1 C.2.1 dX11_copyAll_54 rfl (lv_at hl 2 rfl) ?_
        refine lv_iload_n C.1 C.2.1 dX11_copyAll_55 rfl (lv_at hl 3 rfl) ?_
        obtain ⟨o6, hF⟩ := hF
        refine zgov (zrunS (As := [.ref (bs + (i + 3)), .int (zI (1)), .int (zI (a)), .int (zI (b))]) (rest := []) C hE hH hS hl.1 (c_X11_copyRow (l := l) (zM_n3 hM) (zM_k3 hM) (zM_l3 hM) (by rw [zM_l3 hM]; decide) (1) (by decide) (a) ha (b) hb o6) k_RX11_96 ⟨Nat.le_of_ble_eq_true rfl, Nat.le_of_ble_eq_true rfl⟩ rfl (Nat.le_of_ble_eq_true rfl) dX11_copyAll_56 ⟨Nat.zero_le _, Nat.zero_le _⟩) hS (fun X7 Yq Rq H locs hq hH hS => ?_)
        obtain ⟨h9Y, h9R, hq⟩ := hq
        dsimp only at h9Y h9R
        rw [h9Y, h9R] at hH
        have hF := hF X7 hH.2.2.1 hq
        refine lv_aload_n C.1 C.2.1 dX11_copyAll_59 rfl (lv_at hl 1 rfl) ?_
        refine zg11_4 C hH (zM_n0 hM) (zM_k0 hM) q_1291 (zM_r4 hM) dX11_copyAll_60 ?_
        refine zd_iconst C dX11_copyAll_63 ?_
        refine lv_iload_n C.1 C.2.1 dX11_copyAll_64 rfl (lv_at hl 2 rfl) ?_
        refine lv_iload_n C.1 C.2.1 dX11_copyAll_65 rfl (lv_at hl 3 rfl) ?_
        obtain ⟨o8, hF⟩ := hF
        refine zgov (zrunS (As := [.ref (bs + (i + 4)), .int (zI (1)), .int (zI (a)), .int (zI (b))]) (rest := []) C hE hH hS hl.1 (c_X11_copyRow (l := l) (zM_n4 hM) (zM_k4 hM) (zM_l4 hM) (by rw [zM_l4 hM]; decide) (1) (by decide) (a) ha (b) hb o8) k_RX11_96 ⟨Nat.le_of_ble_eq_true rfl, Nat.le_of_ble_eq_true rfl⟩ rfl (Nat.le_of_ble_eq_true rfl) dX11_copyAll_66 ⟨Nat.zero_le _, Nat.zero_le _⟩) hS (fun X9 Yq Rq H locs hq hH hS => ?_)
        obtain ⟨h9Y, h9R, hq⟩ := hq
        dsimp only at h9Y h9R
        rw [h9Y, h9R] at hH
        have hF := hF X9 hH.2.2.1 hq
        refine lv_aload_n C.1 C.2.1 dX11_copyAll_69 rfl (lv_at hl 1 rfl) ?_
        refine zg11_5 C hH (zM_n0 hM) (zM_k0 hM) q_1292 (zM_r5 hM) dX11_copyAll_70 ?_
        refine zd_iconst C dX11_copyAll_73 ?_
        refine lv_iload_n C.1 C.2.1 dX11_copyAll_74 rfl (lv_at hl 2 rfl) ?_
        refine lv_iload_n C.1 C.2.1 dX11_copyAll_75 rfl (lv_at hl 3 rfl) ?_
        obtain ⟨o10, hF⟩ := hF
        refine zgov (zrunS (As := [.ref (bs + (i + 5)), .int (zI (5)), .int (zI (a)), .int (zI (b))]) (rest := []) C hE hH hS hl.1 (c_X11_copyRow (l := l) (zM_n5 hM) (zM_k5 hM) (zM_l5 hM) (by rw [zM_l5 hM]; decide) (5) (by decide) (a) ha (b) hb o10) k_RX11_96 ⟨Nat.le_of_ble_eq_true rfl, Nat.le_of_ble_eq_true rfl⟩ rfl (Nat.le_of_ble_eq_true rfl) dX11_copyAll_76 ⟨Nat.zero_le _, Nat.zero_le _⟩) hS (fun X11 Yq Rq H locs hq hH hS => ?_)
        obtain ⟨h9Y, h9R, hq⟩ := hq
        dsimp only at h9Y h9R
        rw [h9Y, h9R] at hH
        have hF := hF X11 hH.2.2.1 hq
        refine lv_aload_n C.1 C.2.1 dX11_copyAll_79 rfl (lv_at hl 1 rfl) ?_
        refine zg11_6 C hH (zM_n0 hM) (zM_k0 hM) q_1293 (zM_r6 hM) dX11_copyAll_80 ?_
        refine zd_bipush C (by decide) dX11_copyAll_83 ?_
        refine lv_iload_n C.1 C.2.1 dX11_copyAll_85 rfl (lv_at hl 2 rfl) ?_
        refine lv_iload_n C.1 C.2.1 dX11_copyAll_86 rfl (lv_at hl 3 rfl) ?_
        obtain ⟨o12, hF⟩ := hF
        refine zgov (zrunS (As := [.ref (bs + (i + 6)), .int (zI (26)), .int (zI (a)), .int (zI (b))]) (rest := []) C hE hH hS hl.1 (c_X11_copyRow (l := l) (zM_n6 hM) (zM_k6 hM) (zM_l6 hM) (by rw [zM_l6 hM]; decide) (26) (by decide) (a) ha (b) hb o12) k_RX11_96 ⟨Nat.le_of_ble_eq_true rfl, Nat.le_of_ble_eq_true rfl⟩ rfl (Nat.le_of_ble_eq_true rfl) dX11_copyAll_87 ⟨Nat.zero_le _, Nat.zero_le _⟩) hS (fun X13 Yq Rq H locs hq hH hS => ?_)
        obtain ⟨h9Y, h9R, hq⟩ := hq
        dsimp only at h9Y h9R
        rw [h9Y, h9R] at hH
        have hF := hF X13 hH.2.2.1 hq
        refine lv_aload_n C.1 C.2.1 dX11_copyAll_90 rfl (lv_at hl 1 rfl) ?_
        refine zg11_7 C hH (zM_n0 hM) (zM_k0 hM) q_1294 (zM_r7 hM) dX11_copyAll_91 ?_
        refine zd_sipush C (by decide) dX11_copyAll_94 ?_
        refine lv_iload_n C.1 C.2.1 dX11_copyAll_97 rfl (lv_at hl 2 rfl) ?_
        refine lv_iload_n C.1 C.2.1 dX11_copyAll_98 rfl (lv_at hl 3 rfl) ?_
        obtain ⟨o14, hF⟩ := hF
        refine zgov (zrunS (As := [.ref (bs + (i + 7)), .int (zI (366)), .int (zI (a)), .int (zI (b))]) (rest := []) C hE hH hS hl.1 (c_X11_copyRow (l := l) (zM_n7 hM) (zM_k7 hM) (zM_l7 hM) (by rw [zM_l7 hM]; decide) (366) (by decide) (a) ha (b) hb o14) k_RX11_96 ⟨Nat.le_of_ble_eq_true rfl, Nat.le_of_ble_eq_true rfl⟩ rfl (Nat.le_of_ble_eq_true rfl) dX11_copyAll_99 ⟨Nat.zero_le _, Nat.zero_le _⟩) hS (fun X15 Yq Rq H locs hq hH hS => ?_)
        obtain ⟨h9Y, h9R, hq⟩ := hq
        dsimp only at h9Y h9R
        rw [h9Y, h9R] at hH
        have hF := hF X15 hH.2.2.1 hq
        refine lv_aload_n C.1 C.2.1 dX11_copyAll_102 rfl (lv_at hl 1 rfl) ?_
        refine zg11_8 C hH (zM_n0 hM) (zM_k0 hM) q_1295 (zM_r8 hM) dX11_copyAll_103 ?_
        refine zd_sipush C (by decide) dX11_copyAll_106 ?_
        refine lv_iload_n C.1 C.2.1 dX11_copyAll_109 rfl (lv_at hl 2 rfl) ?_
        refine lv_iload_n C.1 C.2.1 dX11_copyAll_110 rfl (lv_at hl 3 rfl) ?_
        obtain ⟨o16, hF⟩ := hF
        refine zgov (zrunS (As := [.ref (bs + (i + 8)), .int (zI (162)), .int (zI (a)), .int (zI (b))]) (rest := []) C hE hH hS hl.1 (c_X11_copyRow (l := l) (zM_n8 hM) (zM_k8 hM) (zM_l8 hM) (by rw [zM_l8 hM]; decide) (162) (by decide) (a) ha (b) hb o16) k_RX11_96 ⟨Nat.le_of_ble_eq_true rfl, Nat.le_of_ble_eq_true rfl⟩ rfl (Nat.le_of_ble_eq_true rfl) dX11_copyAll_111 ⟨Nat.zero_le _, Nat.zero_le _⟩) hS (fun X17 Yq Rq H locs hq hH hS => ?_)
        obtain ⟨h9Y, h9R, hq⟩ := hq
        dsimp only at h9Y h9R
        rw [h9Y, h9R] at hH
        have hF := hF X17 hH.2.2.1 hq
        refine lv_aload_n C.1 C.2.1 dX11_copyAll_114 rfl (lv_at hl 1 rfl) ?_
        refine zg11_9 C hH (zM_n0 hM) (zM_k0 hM) q_1296 (zM_r9 hM) dX11_copyAll_115 ?_
        refine zd_bipush C (by decide) dX11_copyAll_118 ?_
        refine lv_iload_n C.1 C.2.1 dX11_copyAll_120 rfl (lv_at hl 2 rfl) ?_
        refine lv_iload_n C.1 C.2.1 dX11_copyAll_121 rfl (lv_at hl 3 rfl) ?_
        obtain ⟨o18, hF⟩ := hF
        refine zgov (zrunS (As := [.ref (bs + (i + 9)), .int (zI (34)), .int (zI (a)), .int (zI (b))]) (rest := []) C hE hH hS hl.1 (c_X11_copyRow (l := l) (zM_n9 hM) (zM_k9 hM) (zM_l9 hM) (by rw [zM_l9 hM]; decide) (34) (by decide) (a) ha (b) hb o18) k_RX11_96 ⟨Nat.le_of_ble_eq_true rfl, Nat.le_of_ble_eq_true rfl⟩ rfl (Nat.le_of_ble_eq_true rfl) dX11_copyAll_122 ⟨Nat.zero_le _, Nat.zero_le _⟩) hS (fun X19 Yq Rq H locs hq hH hS => ?_)
        obtain ⟨h9Y, h9R, hq⟩ := hq
        dsimp only at h9Y h9R
        rw [h9Y, h9R] at hH
        have hF := hF X19 hH.2.2.1 hq
        refine lv_aload_n C.1 C.2.1 dX11_copyAll_125 rfl (lv_at hl 1 rfl) ?_
        refine zg11_10 C hH (zM_n0 hM) (zM_k0 hM) q_1297 (zM_r10 hM) dX11_copyAll_126 ?_
        refine zd_bipush C (by decide) dX11_copyAll_129 ?_
        refine lv_iload_n C.1 C.2.1 dX11_copyAll_131 rfl (lv_at hl 2 rfl) ?_
        refine lv_iload_n C.1 C.2.1 dX11_copyAll_132 rfl (lv_at hl 3 rfl) ?_
        obtain ⟨o20, hF⟩ := hF
        refine zgov (zrunS (As := [.ref (bs + (i + 10)), .int (zI (50)), .int (zI (a)), .int (zI (b))]) (rest := []) C hE hH hS hl.1 (c_X11_copyRow (l := l) (zM_n10 hM) (zM_k10 hM) (zM_l10 hM) (by rw [zM_l10 hM]; decide) (50) (by decide) (a) ha (b) hb o20) k_RX11_96 ⟨Nat.le_of_ble_eq_true rfl, Nat.le_of_ble_eq_true rfl⟩ rfl (Nat.le_of_ble_eq_true rfl) dX11_copyAll_133 ⟨Nat.zero_le _, Nat.zero_le _⟩) hS (fun X21 Yq Rq H locs hq hH hS => ?_)
        obtain ⟨h9Y, h9R, hq⟩ := hq
        dsimp only at h9Y h9R
        rw [h9Y, h9R] at hH
        have hF := hF X21 hH.2.2.1 hq
        exact zd_vret C hr hlk hH hS (⟨rfl, rfl, hF⟩) dX11_copyAll_136
      · have hF := hF.2 c3
        refine lv_aload_n C.1 C.2.1 dX11_copyAll_9 rfl (lv_at hl 1 rfl) ?_
        refine zg11_1 C hH (zM_n0 hM) (zM_k0 hM) q_1288 (zM_r1 hM) dX11_copyAll_10 ?_
        refine zd_sipush C (by decide) dX11_copyAll_13 ?_
        refine lv_iload_n C.1 C.2.1 dX11_copyAll_16 rfl (lv_at hl 3 rfl) ?_
        refine zd_imul C dX11_copyAll_17 ?_
        refine lv_iload_n C.1 C.2.1 dX11_copyAll_18 rfl (lv_at hl 0 rfl) ?_
        refine zd_iadd C dX11_copyAll_19 ?_
        refine lv_aload_n C.1 C.2.1 dX11_copyAll_20 rfl (lv_at hl 1 rfl) ?_
        refine zg11_1 C hH (zM_n0 hM) (zM_k0 hM) q_1288 (zM_r1 hM) dX11_copyAll_21 ?_
        refine zd_sipush C (by decide) dX11_copyAll_24 ?_
        refine lv_iload_n C.1 C.2.1 dX11_copyAll_27 rfl (lv_at hl 2 rfl) ?_
        refine zd_imul C dX11_copyAll_28 ?_
        refine lv_iload_n C.1 C.2.1 dX11_copyAll_29 rfl (lv_at hl 0 rfl) ?_
        refine zd_iadd C dX11_copyAll_30 ?_
        obtain ⟨o22, hF⟩ := hF
        refine zd_bald C hH (zM_n1 hM) (zM_k1 hM) o22.1 (by rw [zM_l1 hM]; exact o22.2) (by rw [zM_l1 hM]; decide) dX11_copyAll_31 ?_
        obtain ⟨o23, hF⟩ := hF
        obtain ⟨o24, hF⟩ := hF
        refine zd_bast C hH hS (zM_n1 hM) (zM_k1 hM) o23.1 (by rw [zM_l1 hM]; exact o23.2) (by rw [zM_l1 hM]; decide) o24 dX11_copyAll_32 (fun H locs hH hS => ?_)
        obtain ⟨X25, eX25⟩ : ∃ z, z = zU X2 (i + 1) ((600 * b) + k) (X2 (i + 1) ((600 * a) + k)) := ⟨_, rfl⟩
        rw [← eX25] at hH
        have hF := hF X25 eX25 hH.2.2.1
        refine zd_iinc (k := 0) (lv' := [(3, .int (zI (k + 1))), (0, .ref (bs + (i))), (1, .int (zI (a))), (2, .int (zI (b)))]) C hl rfl dX11_copyAll_33 (by decide) rfl (fun ls hl => ?_)
        refine lv_goto (tgt := 2) C.1 C.2.1 dX11_copyAll_36 (by decide) ?_
        obtain ⟨o26, hF⟩ := hF
        exact ih1 (k + 1) X25 o26 hF.1 (Nat.lt_of_lt_of_le hF.2 (Nat.le_of_lt_succ hmu1)) _ _ _ hH hS (lv_sub hl [0, 1, 2, 3] rfl)
  exact L1 (((600 - ((0 : Int))).toNat) + 1) ((0 : Int)) X (by decide) hI1 (Nat.lt_succ_self _) _ _ _ hH hS (lv_sub hl [0, 1, 2, 3] rfl)
theorem v_X11_copyAll {X Y : Nat → Int → Int} {R : Nat → Int → Option Nat} {i : Nat} (a : Int) (ha : rI a) (b : Int) (hb : rI b) (hp : (0 ≤ a ∧ a ≤ 3) ∧ (0 ≤ b ∧ b ≤ 3) ∧ a ≠ b ∧ oTb X i) : F_X11_copyAll i X Y R a b := by
  unfold F_X11_copyAll
  intro hX hY
  obtain ⟨ha, hb, hab, htb⟩ := hp
  refine ⟨?_, ?_⟩
  · exact ⟨⟨by decide, by decide⟩, fun _ _ => rfl, fun y y0 y1 => by omega, fun _ _ => rfl⟩
  intro k X2
  intro _
  intro rX2
  intro h1
  obtain ⟨hk, hz, hr, ho⟩ := h1
  refine ⟨?_, ?_⟩
  · intro c1
    refine ⟨?_, ?_⟩
    · first | omega | exact ⟨by omega, by omega⟩ | decide | assumption | exact ⟨by omega, by omega, by omega⟩ | exact ⟨by decide, by decide⟩
    intro X5
    intro rX5
    intro h2
    refine ⟨?_, ?_⟩
    · first | omega | exact ⟨by omega, by omega⟩ | decide | assumption | exact ⟨by omega, by omega, by omega⟩ | exact ⟨by decide, by decide⟩
    intro X7
    intro rX7
    intro h3
    refine ⟨?_, ?_⟩
    · first | omega | exact ⟨by omega, by omega⟩ | decide | assumption | exact ⟨by omega, by omega, by omega⟩ | exact ⟨by decide, by decide⟩
    intro X9
    intro rX9
    intro h4
    refine ⟨?_, ?_⟩
    · first | omega | exact ⟨by omega, by omega⟩ | decide | assumption | exact ⟨by omega, by omega, by omega⟩ | exact ⟨by decide, by decide⟩
    intro X11
    intro rX11
    intro h5
    refine ⟨?_, ?_⟩
    · first | omega | exact ⟨by omega, by omega⟩ | decide | assumption | exact ⟨by omega, by omega, by omega⟩ | exact ⟨by decide, by decide⟩
    intro X13
    intro rX13
    intro h6
    refine ⟨?_, ?_⟩
    · first | omega | exact ⟨by omega, by omega⟩ | decide | assumption | exact ⟨by omega, by omega, by omega⟩ | exact ⟨by decide, by decide⟩
    intro X15
    intro rX15
    intro h7
    refine ⟨?_, ?_⟩
    · first | omega | exact ⟨by omega, by omega⟩ | decide | assumption | exact ⟨by omega, by omega, by omega⟩ | exact ⟨by decide, by decide⟩
    intro X17
    intro rX17
    intro h8
    refine ⟨?_, ?_⟩
    · first | omega | exact ⟨by omega, by omega⟩ | decide | assumption | exact ⟨by omega, by omega, by omega⟩ | exact ⟨by decide, by decide⟩
    intro X19
    intro rX19
    intro h9
    refine ⟨?_, ?_⟩
    · first | omega | exact ⟨by omega, by omega⟩ | decide | assumption | exact ⟨by omega, by omega, by omega⟩ | exact ⟨by decide, by decide⟩
    intro X21
    intro rX21
    intro h10
    refine ⟨fun z hz1 => ?_, fun o o1 o2 => ?_⟩
    · rw [h10.1 z (by omega), h9.1 z (by omega), h8.1 z (by omega), h7.1 z (by omega), h6.1 z (by omega), h5.1 z (by omega), h4.1 z (by omega), h3.1 z (by omega), h2.1 z (by omega)]
      exact hz z (by omega)
    · have oo : o = 1 ∨ o = 2 ∨ o = 3 ∨ o = 4 ∨ o = 5 ∨ o = 6 ∨ o = 7 ∨ o = 8 ∨ o = 9 ∨ o = 10 := by omega
      rcases oo with e | e | e | e | e | e | e | e | e | e
      · subst e
        have e : X21 (i + 1) = X2 (i + 1) := by rw [h10.1 (i + 1) (by omega), h9.1 (i + 1) (by omega), h8.1 (i + 1) (by omega), h7.1 (i + 1) (by omega), h6.1 (i + 1) (by omega), h5.1 (i + 1) (by omega), h4.1 (i + 1) (by omega), h3.1 (i + 1) (by omega), h2.1 (i + 1) (by omega)]
        refine ⟨fun y y0 y1 => ?_, fun y hy => ?_⟩
        · have y1 : y < 600 := y1
          show X21 (i + 1) (600 * b + y) = X (i + 1) (600 * a + y)
          rw [e]
          exact hr y y0 (by omega)
        · have hy : y < 600 * b ∨ 600 * b + 600 ≤ y := hy
          rw [e]
          exact ho y (by omega)
      · subst e
        have e : X21 (i + 2) = X5 (i + 2) := by rw [h10.1 (i + 2) (by omega), h9.1 (i + 2) (by omega), h8.1 (i + 2) (by omega), h7.1 (i + 2) (by omega), h6.1 (i + 2) (by omega), h5.1 (i + 2) (by omega), h4.1 (i + 2) (by omega), h3.1 (i + 2) (by omega)]
        have e2 : X2 (i + 2) = X (i + 2) := by rw [hz (i + 2) (by omega)]
        refine ⟨fun y y0 y1 => ?_, fun y hy => ?_⟩
        · have y1 : y < 1 := y1
          show X21 (i + 2) (1 * b + y) = X (i + 2) (1 * a + y)
          rw [e, h2.2.1 y y0 y1, e2]
        · have hy : y < 1 * b ∨ 1 * b + 1 ≤ y := hy
          rw [e, h2.2.2 y hy, e2]
      · subst e
        have e : X21 (i + 3) = X7 (i + 3) := by rw [h10.1 (i + 3) (by omega), h9.1 (i + 3) (by omega), h8.1 (i + 3) (by omega), h7.1 (i + 3) (by omega), h6.1 (i + 3) (by omega), h5.1 (i + 3) (by omega), h4.1 (i + 3) (by omega)]
        have e2 : X5 (i + 3) = X (i + 3) := by rw [h2.1 (i + 3) (by omega), hz (i + 3) (by omega)]
        refine ⟨fun y y0 y1 => ?_, fun y hy => ?_⟩
        · have y1 : y < 1 := y1
          show X21 (i + 3) (1 * b + y) = X (i + 3) (1 * a + y)
          rw [e, h3.2.1 y y0 y1, e2]
        · have hy : y < 1 * b ∨ 1 * b + 1 ≤ y := hy
          rw [e, h3.2.2 y hy, e2]
      · subst e
        have e : X21 (i + 4) = X9 (i + 4) := by rw [h10.1 (i + 4) (by omega), h9.1 (i + 4) (by omega), h8.1 (i + 4) (by omega), h7.1 (i + 4) (by omega), h6.1 (i + 4) (by omega), h5.1 (i + 4) (by omega)]
        have e2 : X7 (i + 4) = X (i + 4) := by rw [h3.1 (i + 4) (by omega), h2.1 (i + 4) (by omega), hz (i + 4) (by omega)]
        refine ⟨fun y y0 y1 => ?_, fun y hy => ?_⟩
        · have y1 : y < 1 := y1
          show X21 (i + 4) (1 * b + y) = X (i + 4) (1 * a + y)
          rw [e, h4.2.1 y y0 y1, e2]
        · have hy : y < 1 * b ∨ 1 * b + 1 ≤ y := hy
          rw [e, h4.2.2 y hy, e2]
      · subst e
        have e : X21 (i + 5) = X11 (i + 5) := by rw [h10.1 (i + 5) (by omega), h9.1 (i + 5) (by omega), h8.1 (i + 5) (by omega), h7.1 (i + 5) (by omega), h6.1 (i + 5) (by omega)]
        have e2 : X9 (i + 5) = X (i + 5) := by rw [h4.1 (i + 5) (by omega), h3.1 (i + 5) (by omega), h2.1 (i + 5) (by omega), hz (i + 5) (by omega)]
        refine ⟨fun y y0 y1 => ?_, fun y hy => ?_⟩
        · have y1 : y < 5 := y1
          show X21 (i + 5) (5 * b + y) = X (i + 5) (5 * a + y)
          rw [e, h5.2.1 y y0 y1, e2]
        · have hy : y < 5 * b ∨ 5 * b + 5 ≤ y := hy
          rw [e, h5.2.2 y hy, e2]
      · subst e
        have e : X21 (i + 6) = X13 (i + 6) := by rw [h10.1 (i + 6) (by omega), h9.1 (i + 6) (by omega), h8.1 (i + 6) (by omega), h7.1 (i + 6) (by omega)]
        have e2 : X11 (i + 6) = X (i + 6) := by rw [h5.1 (i + 6) (by omega), h4.1 (i + 6) (by omega), h3.1 (i + 6) (by omega), h2.1 (i + 6) (by omega), hz (i + 6) (by omega)]
        refine ⟨fun y y0 y1 => ?_, fun y hy => ?_⟩
        · have y1 : y < 26 := y1
          show X21 (i + 6) (26 * b + y) = X (i + 6) (26 * a + y)
          rw [e, h6.2.1 y y0 y1, e2]
        · have hy : y < 26 * b ∨ 26 * b + 26 ≤ y := hy
          rw [e, h6.2.2 y hy, e2]
      · subst e
        have e : X21 (i + 7) = X15 (i + 7) := by rw [h10.1 (i + 7) (by omega), h9.1 (i + 7) (by omega), h8.1 (i + 7) (by omega)]
        have e2 : X13 (i + 7) = X (i + 7) := by rw [h6.1 (i + 7) (by omega), h5.1 (i + 7) (by omega), h4.1 (i + 7) (by omega), h3.1 (i + 7) (by omega), h2.1 (i + 7) (by omega), hz (i + 7) (by omega)]
        refine ⟨fun y y0 y1 => ?_, fun y hy => ?_⟩
        · have y1 : y < 366 := y1
          show X21 (i + 7) (366 * b + y) = X (i + 7) (366 * a + y)
          rw [e, h7.2.1 y y0 y1, e2]
        · have hy : y < 366 * b ∨ 366 * b + 366 ≤ y := hy
          rw [e, h7.2.2 y hy, e2]
      · subst e
        have e : X21 (i + 8) = X17 (i + 8) := by rw [h10.1 (i + 8) (by omega), h9.1 (i + 8) (by omega)]
        have e2 : X15 (i + 8) = X (i + 8) := by rw [h7.1 (i + 8) (by omega), h6.1 (i + 8) (by omega), h5.1 (i + 8) (by omega), h4.1 (i + 8) (by omega), h3.1 (i + 8) (by omega), h2.1 (i + 8) (by omega), hz (i + 8) (by omega)]
        refine ⟨fun y y0 y1 => ?_, fun y hy => ?_⟩
        · have y1 : y < 162 := y1
          show X21 (i + 8) (162 * b + y) = X (i + 8) (162 * a + y)
          rw [e, h8.2.1 y y0 y1, e2]
        · have hy : y < 162 * b ∨ 162 * b + 162 ≤ y := hy
          rw [e, h8.2.2 y hy, e2]
      · subst e
        have e : X21 (i + 9) = X19 (i + 9) := by rw [h10.1 (i + 9) (by omega)]
        have e2 : X17 (i + 9) = X (i + 9) := by rw [h8.1 (i + 9) (by omega), h7.1 (i + 9) (by omega), h6.1 (i + 9) (by omega), h5.1 (i + 9) (by omega), h4.1 (i + 9) (by omega), h3.1 (i + 9) (by omega), h2.1 (i + 9) (by omega), hz (i + 9) (by omega)]
        refine ⟨fun y y0 y1 => ?_, fun y hy => ?_⟩
        · have y1 : y < 34 := y1
          show X21 (i + 9) (34 * b + y) = X (i + 9) (34 * a + y)
          rw [e, h9.2.1 y y0 y1, e2]
        · have hy : y < 34 * b ∨ 34 * b + 34 ≤ y := hy
          rw [e, h9.2.2 y hy, e2]
      · subst e
        have e : X21 (i + 10) = X21 (i + 10) := by rfl
        have e2 : X19 (i + 10) = X (i + 10) := by rw [h9.1 (i + 10) (by omega), h8.1 (i + 10) (by omega), h7.1 (i + 10) (by omega), h6.1 (i + 10) (by omega), h5.1 (i + 10) (by omega), h4.1 (i + 10) (by omega), h3.1 (i + 10) (by omega), h2.1 (i + 10) (by omega), hz (i + 10) (by omega)]
        refine ⟨fun y y0 y1 => ?_, fun y hy => ?_⟩
        · have y1 : y < 50 := y1
          show X21 (i + 10) (50 * b + y) = X (i + 10) (50 * a + y)
          rw [e, h10.2.1 y y0 y1, e2]
        · have hy : y < 50 * b ∨ 50 * b + 50 ≤ y := hy
          rw [e, h10.2.2 y hy, e2]
  intro c2
  refine ⟨?_, ?_⟩
  · first | omega | exact ⟨by omega, by omega⟩ | decide | assumption | exact ⟨by omega, by omega, by omega⟩ | exact ⟨by decide, by decide⟩
  refine ⟨?_, ?_⟩
  · first | omega | exact ⟨by omega, by omega⟩ | decide | assumption | exact ⟨by omega, by omega, by omega⟩ | exact ⟨by decide, by decide⟩
  refine ⟨?_, ?_⟩
  · rw [ho _ (by omega)]
    exact htb _ (by omega) (by omega)
  intro X25
  intro eX25
  intro rX25
  refine ⟨?_, ?_⟩
  · first | omega | exact ⟨by omega, by omega⟩ | decide | assumption | exact ⟨by omega, by omega, by omega⟩ | exact ⟨by decide, by decide⟩
  refine ⟨?_, ?_⟩
  · refine ⟨⟨by omega, by omega⟩, fun zz hzz => by rw [eX25, zU_o hzz]; exact hz zz hzz, fun y y0 y1 => ?_, fun y hy => by rw [eX25, zU_n (by omega)]; exact ho y (by omega)⟩
    rw [eX25]
    by_cases e : y = k
    · rw [e, zU_s, ho _ (by omega)]
    · rw [zU_n (by omega)]
      exact hr y y0 (by omega)
  first | omega | exact ⟨by omega, by omega⟩ | decide | assumption | exact ⟨by omega, by omega, by omega⟩ | exact ⟨by decide, by decide⟩
theorem c_X11_copyAll {l : Launch} {D : va_G} {cy : Nat → ClassId} {bs N : Nat} {sa : Nat → Nat} {kd len : Nat → Nat} {X Y : Nat → Int → Int} {R : Nat → Int → Option Nat} {i : Nat} (hM : zM N kd len R i) (a : Int) (ha : rI a) (b : Int) (hb : rI b) (hp : (0 ≤ a ∧ a ≤ 3) ∧ (0 ≤ b ∧ b ≤ 3) ∧ a ≠ b ∧ oTb X i) : Met l yX11_copyAll (.code yX11_copyAll cX11_copyAll 4 none :: zTB) (zRm 1 24) (zPc D cy bs sa N kd len X Y R [.ref (bs + (i)), .int (zI (a)), .int (zI (b))]) (zQv D cy bs N kd len (fun st => st.2.1 = Y ∧ st.2.2 = R ∧ (cpI X (st.1) i (a) (b)))) 0 0 (zA bs) := w_X11_copyAll hM a ha b hb (v_X11_copyAll a ha b hb hp)
def imK (X X1 : Nat → Int → Int) (i : Nat) (a : Int) : Prop := (∀ z, z ≠ i → (z < i + 1 ∨ i + 10 < z) → z ≠ i + 25 → X1 z = X z) ∧ (X1 i 0 = 0 ∧ ∀ s, s ≠ 0 → X1 i s = X i s) ∧ (∀ o, 1 ≤ o → o ≤ 10 → cpO X X1 i 0 (a + 1) o) ∧ X1 (i + 25) a = 1 ∧ ∀ y, y ≠ a → X1 (i + 25) y = X (i + 25) y
def agK (X X1 : Nat → Int → Int) (i : Nat) (a : Int) : Prop := (∀ z, z ≠ i → (z < i + 1 ∨ i + 10 < z) → X1 z = X z) ∧ (X1 i 0 = 0 ∧ ∀ s, s ≠ 0 → X1 i s = X i s) ∧ ∀ o, 1 ≤ o → o ≤ 10 → cpO X X1 i (a + 1) 0 o
/-- four bytes more -/
def frN (T : Int → Int) (n v : Int) : Nat → Int → Int
  | 0 => T
  | q + 1 => upI (frN T n v q) (n + q) (zByt (zShr v (24 - 8 * (q : Int))))
def frA (T : Int → Int) (n a b c d e : Int) : Int → Int := frN (frN (frN (frN (frN T n a 4) (n + 4) b 4) (n + 8) c 4) (n + 12) d 4) (n + 16) e 4
def foK (X X1 : Nat → Int → Int) (i : Nat) (a : Int) : Prop := (∀ z, z ≠ i + 1 → z ≠ i + 2 → X1 z = X z) ∧ X1 (i + 2) = upI (X (i + 2)) 0 (X (i + 2) 0 + 4) ∧ X1 (i + 1) = frN (X (i + 1)) (X (i + 2) 0) a 4
abbrev cX11_image : ByteArray := prog_13_method_138_code
def yX11_image : MethodName := ⟨RX11, "image", "(I)Z"⟩
theorem dX11_image_0 : decode cX11_image 0 = .ok (.aload_n 0, 1) := by decide +kernel
theorem dX11_image_1 : decode cX11_image 1 = .ok (.iconst 0, 1) := by decide +kernel
theorem dX11_image_2 : decode cX11_image 2 = .ok (.putfield 88, 3) := by decide +kernel
theorem dX11_image_5 : decode cX11_image 5 = .ok (.iload_n 1, 1) := by decide +kernel
theorem dX11_image_6 : decode cX11_image 6 = .ok (.iconst 0, 1) := by decide +kernel
theorem dX11_image_7 : decode cX11_image 7 = .ok (.iconst 2, 1) := by decide +kernel
theorem dX11_image_8 : decode cX11_image 8 = .ok (.invokestatic 100, 3) := by decide +kernel
theorem dX11_image_11 : decode cX11_image 11 = .ok (.ifCond .ne 5, 3) := by decide +kernel
theorem dX11_image_14 : decode cX11_image 14 = .ok (.iconst 0, 1) := by decide +kernel
theorem dX11_image_15 : decode cX11_image 15 = .ok (.ireturn, 1) := by decide +kernel
theorem dX11_image_16 : decode cX11_image 16 = .ok (.aload_n 0, 1) := by decide +kernel
theorem dX11_image_17 : decode cX11_image 17 = .ok (.iconst 0, 1) := by decide +kernel
theorem dX11_image_18 : decode cX11_image 18 = .ok (.iload_n 1, 1) := by decide +kernel
theorem dX11_image_19 : decode cX11_image 19 = .ok (.iconst 1, 1) := by decide +kernel
theorem dX11_image_20 : decode cX11_image 20 = .ok (.iadd, 1) := by decide +kernel
theorem dX11_image_21 : decode cX11_image 21 = .ok (.invokevirtual 584, 3) := by decide +kernel
theorem dX11_image_24 : decode cX11_image 24 = .ok (.aload_n 0, 1) := by decide +kernel
theorem dX11_image_25 : decode cX11_image 25 = .ok (.getfield 84, 3) := by decide +kernel
theorem dX11_image_28 : decode cX11_image 28 = .ok (.iload_n 1, 1) := by decide +kernel
theorem dX11_image_29 : decode cX11_image 29 = .ok (.iconst 1, 1) := by decide +kernel
theorem dX11_image_30 : decode cX11_image 30 = .ok (.bastore, 1) := by decide +kernel
theorem dX11_image_31 : decode cX11_image 31 = .ok (.iconst 1, 1) := by decide +kernel
theorem dX11_image_32 : decode cX11_image 32 = .ok (.ireturn, 1) := by decide +kernel
theorem q_2032 : Cond.methodLink RX11 584 yX11_copyAll ∈ zTB := zmem 2032 (by decide +kernel) rfl
theorem q_2034 : Cond.instanceMethod yX11_copyAll ∈ zTB := zmem 2034 (by decide +kernel) rfl
theorem q_127 : Cond.selects RX11 yX11_copyAll yX11_copyAll ∈ zTB := zmem 127 (by decide +kernel) rfl
theorem q_2035 : Cond.code yX11_copyAll cX11_copyAll 4 none ∈ zTB := zmem 2035 (by decide +kernel) rfl
theorem k_RX11_584 : zLv RX11 584 RX11 yX11_copyAll cX11_copyAll 4 none 2 := ⟨⟨q_2032, q_2034, q_127, q_140, q_2035⟩, rfl, ⟨by decide, by decide⟩, by decide +kernel⟩
theorem q_1352 : Cond.fieldLink RX11 84 RX11 "saved" "[Z" ∈ zTB := zmem 1352 (by decide +kernel) rfl
def F_X11_image (i : Nat) (X Y : Nat → Int → Int) (R : Nat → Int → Option Nat) (a : Int) : Prop := (∀ i j, rI (X i j)) → (∀ i j, rL (Y i j)) → ∀ X1 : Nat → Int → Int, X1 = zU X (i) 0 (0) → (∀ i j, rI (X1 i j)) → ((((mIn (a) ((0 : Int)) ((2 : Int))) = true) → ((rI (a + 1)) ∧ (((0 ≤ (0 : Int) ∧ (0 : Int) ≤ 3) ∧ (0 ≤ a + 1 ∧ a + 1 ≤ 3) ∧ (0 : Int) ≠ a + 1 ∧ oTb X1 i) ∧ (∀ X5 : Nat → Int → Int, (∀ i j, rI (X5 i j)) → (cpI X1 (X5) i ((0 : Int)) (a + 1)) → ((0 ≤ a ∧ a < 3) ∧ (∀ X7 : Nat → Int → Int, X7 = zU X5 (i + 25) (a) (1) → (∀ i j, rI (X7 i j)) → (true = mIn (a) 0 2 ∧ (true = false → (X7) = zU X i 0 0) ∧ (true = true → imK X (X7) i (a))))))))) ∧ (((mIn (a) ((0 : Int)) ((2 : Int))) = false) → (false = mIn (a) 0 2 ∧ (false = false → (X1) = zU X i 0 0) ∧ (false = true → imK X (X1) i (a)))))
set_option maxHeartbeats 4000000 in
set_option maxRecDepth 100000 in
theorem w_X11_image {l : Launch} {D : va_G} {cy : Nat → ClassId} {bs N : Nat} {sa : Nat → Nat} {kd len : Nat → Nat} {X Y : Nat → Int → Int} {R : Nat → Int → Option Nat} {i : Nat} (hM : zM N kd len R i) (a : Int) (ha : rI a) (hF : F_X11_image i X Y R a) : Met l yX11_image (.code yX11_image cX11_image 2 (some .boolean) :: zTB) (zRm 2 47) (zPc D cy bs sa N kd len X Y R [.ref (bs + (i)), .int (zI (a))]) (zQi D cy bs N kd len (fun r st => st.2.1 = Y ∧ st.2.2 = R ∧ ∃ rb : Bool, r = bz rb ∧ (rb = mIn (a) 0 2 ∧ (rb = false → (st.1) = zU X i 0 0) ∧ (rb = true → imK X (st.1) i (a))))) 0 0 (zA bs) := by
  refine zstart (by decide) (Nat.le_of_ble_eq_true rfl) ?_
  intro p e s m args below meth c ls C hE hH hr hlk hnm hl hargs
  have hF := hF hH.2.2.1 hH.2.2.2
  have hS : va_S (zA bs) s.heap s.heap [] := va_S.rf
  have hl : lv_has ls 2 [(0, .ref (bs + (i))), (1, .int (zI (a)))] := hl
  refine lv_aload_n C.1 C.2.1 dX11_image_0 rfl (lv_at hl 0 rfl) ?_
  refine zd_iconst C dX11_image_1 ?_
  refine zp11_0 C hH hS (zM_n0 hM) (zM_k0 hM) q_1287 (by decide) dX11_image_2 (fun H locs hH hS => ?_)
  obtain ⟨X1, eX1⟩ : ∃ z, z = zU X (i) 0 (0) := ⟨_, rfl⟩
  rw [← eX1] at hH
  have hF := hF X1 eX1 hH.2.2.1
  refine lv_iload_n C.1 C.2.1 dX11_image_5 rfl (lv_at hl 1 rfl) ?_
  refine zd_iconst C dX11_image_6 ?_
  refine zd_iconst C dX11_image_7 ?_
  refine zgoi (zrunS (As := [.int (zI (a)), .int (zI (0)), .int (zI (2))]) (rest := []) C hE hH hS hl.1 (c_X11_in (l := l)  (a) ha (0) (by decide) (2) (by decide)) k_RX11_100 ⟨Nat.le_of_ble_eq_true rfl, Nat.le_of_ble_eq_true rfl⟩ rfl (Nat.le_of_ble_eq_true rfl) dX11_image_8 ⟨Nat.zero_le _, Nat.zero_le _⟩) hS (fun rq Xq Yq Rq H locs hrq hq hH hS => ?_)
  obtain ⟨h91, h92⟩ := hq
  have h93 : Xq = X1 := congrArg (fun z => z.1) h92
  have h94 : Yq = Y := congrArg (fun z => z.2.1) h92
  have h95 : Rq = R := congrArg (fun z => z.2.2) h92
  rw [h93, h94, h95] at hH
  subst h91
  refine zd_ifB_ne C 16 dX11_image_11 (by decide) (fun c2 => ?_) (fun c2 => ?_)
  · have hF := hF.1 c2
    refine lv_aload_n C.1 C.2.1 dX11_image_16 rfl (lv_at hl 0 rfl) ?_
    refine zd_iconst C dX11_image_17 ?_
    refine lv_iload_n C.1 C.2.1 dX11_image_18 rfl (lv_at hl 1 rfl) ?_
    refine zd_iconst C dX11_image_19 ?_
    refine zd_iadd C dX11_image_20 ?_
    obtain ⟨o3, hF⟩ := hF
    obtain ⟨o4, hF⟩ := hF
    refine zgov (zrunV (As := [.int (zI (0)), .int (zI (a + 1))]) (rest := []) C hE hH hS hl.1 (c_X11_copyAll (l := l) hM (0) (by decide) (a + 1) o3 o4) k_RX11_584 ⟨Nat.le_of_ble_eq_true rfl, Nat.le_of_ble_eq_true rfl⟩ (zM_n0 hM) (zM_k0 hM) rfl rfl rfl (Nat.le_of_ble_eq_true rfl) dX11_image_21 ⟨Nat.zero_le _, Nat.zero_le _⟩) hS (fun X5 Yq Rq H locs hq hH hS => ?_)
    obtain ⟨h9Y, h9R, hq⟩ := hq
    dsimp only at h9Y h9R
    rw [h9Y, h9R] at hH
    have hF := hF X5 hH.2.2.1 hq
    refine lv_aload_n C.1 C.2.1 dX11_image_24 rfl (lv_at hl 0 rfl) ?_
    refine zg11_65 C hH (zM_n0 hM) (zM_k0 hM) q_1352 (zM_r25 hM) dX11_image_25 ?_
    refine lv_iload_n C.1 C.2.1 dX11_image_28 rfl (lv_at hl 1 rfl) ?_
    refine zd_iconst C dX11_image_29 ?_
    obtain ⟨o6, hF⟩ := hF
    refine zd_zast C hH hS (zM_n25 hM) (zM_k25 hM) o6.1 (by rw [zM_l25 hM]; exact o6.2) (by rw [zM_l25 hM]; decide) (by decide) dX11_image_30 (fun H locs hH hS => ?_)
    obtain ⟨X7, eX7⟩ : ∃ z, z = zU X5 (i + 25) (a) (1) := ⟨_, rfl⟩
    rw [← eX7] at hH
    have hF := hF X7 eX7 hH.2.2.1
    refine zd_iconst C dX11_image_31 ?_
    exact zd_zret C hr hlk hH hS (by decide) (⟨rfl, rfl, _, rfl, hF⟩) dX11_image_32
  · have hF := hF.2 c2
    refine zd_iconst C dX11_image_14 ?_
    exact zd_zret C hr hlk hH hS (by decide) (⟨rfl, rfl, _, rfl, hF⟩) dX11_image_15
theorem v_X11_image {X Y : Nat → Int → Int} {R : Nat → Int → Option Nat} {i : Nat} (a : Int) (ha : rI a) (hp : oTb X i) : F_X11_image i X Y R a := by
  unfold F_X11_image
  intro hX hY
  intro X1
  intro eX1
  have o1 : ∀ z, z ≠ i → X1 z = X z := fun z h => by rw [eX1, zU_o h]
  have b1 : oTb X1 i := fun y y0 y1 => by rw [o1 _ (by omega)]; exact hp y y0 y1
  intro rX1
  refine ⟨?_, ?_⟩
  · intro c1
    have m1 := mIn_t.mp c1
    refine ⟨?_, ?_⟩
    · first | omega | exact ⟨by omega, by omega⟩ | decide | assumption | exact ⟨by omega, by omega, by omega⟩ | exact ⟨by decide, by decide⟩
    refine ⟨?_, ?_⟩
    · exact ⟨by decide, ⟨by omega, by omega⟩, by omega, b1⟩
    intro X5
    intro rX5
    intro h1
    refine ⟨?_, ?_⟩
    · first | omega | exact ⟨by omega, by omega⟩ | decide | assumption | exact ⟨by omega, by omega, by omega⟩ | exact ⟨by decide, by decide⟩
    intro X7
    intro eX7
    intro rX7
    refine ⟨c1.symm, fun h => absurd h (by decide), fun _ => ⟨fun z z1 z2 z3 => by rw [eX7, zU_o z3, h1.1 z z2, o1 z z1], ⟨?_, fun s hs => ?_⟩, fun o g1 g2 => ?_, by rw [eX7, zU_s], fun y hy => by rw [eX7, zU_n (by omega), h1.1 _ (by omega), o1 _ (by omega)]⟩⟩
    · rw [eX7, zU_o (by omega), h1.1 _ (by omega), eX1, zU_s]
    · rw [eX7, zU_o (by omega), h1.1 _ (by omega), eX1, zU_n (by omega)]
    · obtain ⟨q1, q2⟩ := h1.2 o g1 g2
      have e0 : X1 (i + o) = X (i + o) := o1 _ (by omega)
      have e7 : X7 (i + o) = X5 (i + o) := by rw [eX7, zU_o (by omega)]
      rw [e0] at q1 q2
      exact ⟨fun y y0 y1 => by rw [e7]; exact q1 y y0 y1, fun y hy => by rw [e7]; exact q2 y hy⟩
  intro c2
  exact ⟨c2.symm, fun _ => eX1, fun h => absurd h (by decide)⟩
theorem c_X11_image {l : Launch} {D : va_G} {cy : Nat → ClassId} {bs N : Nat} {sa : Nat → Nat} {kd len : Nat → Nat} {X Y : Nat → Int → Int} {R : Nat → Int → Option Nat} {i : Nat} (hM : zM N kd len R i) (a : Int) (ha : rI a) (hp : oTb X i) : Met l yX11_image (.code yX11_image cX11_image 2 (some .boolean) :: zTB) (zRm 2 47) (zPc D cy bs sa N kd len X Y R [.ref (bs + (i)), .int (zI (a))]) (zQi D cy bs N kd len (fun r st => st.2.1 = Y ∧ st.2.2 = R ∧ ∃ rb : Bool, r = bz rb ∧ (rb = mIn (a) 0 2 ∧ (rb = false → (st.1) = zU X i 0 0) ∧ (rb = true → imK X (st.1) i (a))))) 0 0 (zA bs) := w_X11_image hM a ha (v_X11_image a ha hp)
abbrev cX11_again : ByteArray := prog_13_method_139_code
def yX11_again : MethodName := ⟨RX11, "again", "(I)Z"⟩
theorem dX11_again_0 : decode cX11_again 0 = .ok (.aload_n 0, 1) := by decide +kernel
theorem dX11_again_1 : decode cX11_again 1 = .ok (.iconst 0, 1) := by decide +kernel
theorem dX11_again_2 : decode cX11_again 2 = .ok (.putfield 88, 3) := by decide +kernel
theorem dX11_again_5 : decode cX11_again 5 = .ok (.iload_n 1, 1) := by decide +kernel
theorem dX11_again_6 : decode cX11_again 6 = .ok (.iconst 0, 1) := by decide +kernel
theorem dX11_again_7 : decode cX11_again 7 = .ok (.iconst 2, 1) := by decide +kernel
theorem dX11_again_8 : decode cX11_again 8 = .ok (.invokestatic 100, 3) := by decide +kernel
theorem dX11_again_11 : decode cX11_again 11 = .ok (.ifCond .eq 12, 3) := by decide +kernel
theorem dX11_again_14 : decode cX11_again 14 = .ok (.aload_n 0, 1) := by decide +kernel
theorem dX11_again_15 : decode cX11_again 15 = .ok (.getfield 84, 3) := by decide +kernel
theorem dX11_again_18 : decode cX11_again 18 = .ok (.iload_n 1, 1) := by decide +kernel
theorem dX11_again_19 : decode cX11_again 19 = .ok (.baload, 1) := by decide +kernel
theorem dX11_again_20 : decode cX11_again 20 = .ok (.ifCond .ne 5, 3) := by decide +kernel
theorem dX11_again_23 : decode cX11_again 23 = .ok (.iconst 0, 1) := by decide +kernel
theorem dX11_again_24 : decode cX11_again 24 = .ok (.ireturn, 1) := by decide +kernel
theorem dX11_again_25 : decode cX11_again 25 = .ok (.aload_n 0, 1) := by decide +kernel
theorem dX11_again_26 : decode cX11_again 26 = .ok (.iload_n 1, 1) := by decide +kernel
theorem dX11_again_27 : decode cX11_again 27 = .ok (.iconst 1, 1) := by decide +kernel
theorem dX11_again_28 : decode cX11_again 28 = .ok (.iadd, 1) := by decide +kernel
theorem dX11_again_29 : decode cX11_again 29 = .ok (.iconst 0, 1) := by decide +kernel
theorem dX11_again_30 : decode cX11_again 30 = .ok (.invokevirtual 584, 3) := by decide +kernel
theorem dX11_again_33 : decode cX11_again 33 = .ok (.iconst 1, 1) := by decide +kernel
theorem dX11_again_34 : decode cX11_again 34 = .ok (.ireturn, 1) := by decide +kernel
def F_X11_again (i : Nat) (X Y : Nat → Int → Int) (R : Nat → Int → Option Nat) (a : Int) : Prop := (∀ i j, rI (X i j)) → (∀ i j, rL (Y i j)) → ∀ X1 : Nat → Int → Int, X1 = zU X (i) 0 (0) → (∀ i j, rI (X1 i j)) → ((((mIn (a) ((0 : Int)) ((2 : Int))) = false) → (false = (mIn (a) 0 2 && decide (X (i + 25) (a) ≠ 0)) ∧ (false = false → (X1) = zU X i 0 0) ∧ (false = true → agK X (X1) i (a)))) ∧ (((mIn (a) ((0 : Int)) ((2 : Int))) = true) → ((0 ≤ a ∧ a < 3) ∧ (((¬ (X1 (i + 25) (a)) = 0) → ((rI (a + 1)) ∧ (((0 ≤ a + 1 ∧ a + 1 ≤ 3) ∧ (0 ≤ (0 : Int) ∧ (0 : Int) ≤ 3) ∧ a + 1 ≠ (0 : Int) ∧ oTb X1 i) ∧ (∀ X7 : Nat → Int → Int, (∀ i j, rI (X7 i j)) → (cpI X1 (X7) i (a + 1) ((0 : Int))) → (true = (mIn (a) 0 2 && decide (X (i + 25) (a) ≠ 0)) ∧ (true = false → (X7) = zU X i 0 0) ∧ (true = true → agK X (X7) i (a))))))) ∧ ((¬ (¬ (X1 (i + 25) (a)) = 0)) → (false = (mIn (a) 0 2 && decide (X (i + 25) (a) ≠ 0)) ∧ (false = false → (X1) = zU X i 0 0) ∧ (false = true → agK X (X1) i (a))))))))
set_option maxHeartbeats 4000000 in
set_option maxRecDepth 100000 in
theorem w_X11_again {l : Launch} {D : va_G} {cy : Nat → ClassId} {bs N : Nat} {sa : Nat → Nat} {kd len : Nat → Nat} {X Y : Nat → Int → Int} {R : Nat → Int → Option Nat} {i : Nat} (hM : zM N kd len R i) (a : Int) (ha : rI a) (hF : F_X11_again i X Y R a) : Met l yX11_again (.code yX11_again cX11_again 2 (some .boolean) :: zTB) (zRm 2 47) (zPc D cy bs sa N kd len X Y R [.ref (bs + (i)), .int (zI (a))]) (zQi D cy bs N kd len (fun r st => st.2.1 = Y ∧ st.2.2 = R ∧ ∃ rb : Bool, r = bz rb ∧ (rb = (mIn (a) 0 2 && decide (X (i + 25) (a) ≠ 0)) ∧ (rb = false → (st.1) = zU X i 0 0) ∧ (rb = true → agK X (st.1) i (a))))) 0 0 (zA bs) := by
  refine zstart (by decide) (Nat.le_of_ble_eq_true rfl) ?_
  intro p e s m args below meth c ls C hE hH hr hlk hnm hl hargs
  have hF := hF hH.2.2.1 hH.2.2.2
  have hS : va_S (zA bs) s.heap s.heap [] := va_S.rf
  have hl : lv_has ls 2 [(0, .ref (bs + (i))), (1, .int (zI (a)))] := hl
  refine lv_aload_n C.1 C.2.1 dX11_again_0 rfl (lv_at hl 0 rfl) ?_
  refine zd_iconst C dX11_again_1 ?_
  refine zp11_0 C hH hS (zM_n0 hM) (zM_k0 hM) q_1287 (by decide) dX11_again_2 (fun H locs hH hS => ?_)
  obtain ⟨X1, eX1⟩ : ∃ z, z = zU X (i) 0 (0) := ⟨_, rfl⟩
  rw [← eX1] at hH
  have hF := hF X1 eX1 hH.2.2.1
  refine lv_iload_n C.1 C.2.1 dX11_again_5 rfl (lv_at hl 1 rfl) ?_
  refine zd_iconst C dX11_again_6 ?_
  refine zd_iconst C dX11_again_7 ?_
  refine zgoi (zrunS (As := [.int (zI (a)), .int (zI (0)), .int (zI (2))]) (rest := []) C hE hH hS hl.1 (c_X11_in (l := l)  (a) ha (0) (by decide) (2) (by decide)) k_RX11_100 ⟨Nat.le_of_ble_eq_true rfl, Nat.le_of_ble_eq_true rfl⟩ rfl (Nat.le_of_ble_eq_true rfl) dX11_again_8 ⟨Nat.zero_le _, Nat.zero_le _⟩) hS (fun rq Xq Yq Rq H locs hrq hq hH hS => ?_)
  obtain ⟨h91, h92⟩ := hq
  have h93 : Xq = X1 := congrArg (fun z => z.1) h92
  have h94 : Yq = Y := congrArg (fun z => z.2.1) h92
  have h95 : Rq = R := congrArg (fun z => z.2.2) h92
  rw [h93, h94, h95] at hH
  subst h91
  refine zd_ifB_eq C 23 dX11_again_11 (by decide) (fun c2 => ?_) (fun c2 => ?_)
  · have hF := hF.1 c2
    refine zd_iconst C dX11_again_23 ?_
    exact zd_zret C hr hlk hH hS (by decide) (⟨rfl, rfl, _, rfl, hF⟩) dX11_again_24
  · have hF := hF.2 c2
    refine lv_aload_n C.1 C.2.1 dX11_again_14 rfl (lv_at hl 0 rfl) ?_
    refine zg11_65 C hH (zM_n0 hM) (zM_k0 hM) q_1352 (zM_r25 hM) dX11_again_15 ?_
    refine lv_iload_n C.1 C.2.1 dX11_again_18 rfl (lv_at hl 1 rfl) ?_
    obtain ⟨o3, hF⟩ := hF
    refine zd_zald C hH (zM_n25 hM) (zM_k25 hM) o3.1 (by rw [zM_l25 hM]; exact o3.2) (by rw [zM_l25 hM]; decide) dX11_again_19 ?_
    refine zd_if_ne C (hH.2.2.1 _ _) 25 dX11_again_20 (by decide) (fun c4 => ?_) (fun c4 => ?_)
    · have hF := hF.1 c4
      refine lv_aload_n C.1 C.2.1 dX11_again_25 rfl (lv_at hl 0 rfl) ?_
      refine lv_iload_n C.1 C.2.1 dX11_again_26 rfl (lv_at hl 1 rfl) ?_
      refine zd_iconst C dX11_again_27 ?_
      refine zd_iadd C dX11_again_28 ?_
      refine zd_iconst C dX11_again_29 ?_
      obtain ⟨o5, hF⟩ := hF
      obtain ⟨o6, hF⟩ := hF
      refine zgov (zrunV (As := [.int (zI (a + 1)), .int (zI (0))]) (rest := []) C hE hH hS hl.1 (c_X11_copyAll (l := l) hM (a + 1) o5 (0) (by decide) o6) k_RX11_584 ⟨Nat.le_of_ble_eq_true rfl, Nat.le_of_ble_eq_true rfl⟩ (zM_n0 hM) (zM_k0 hM) rfl rfl rfl (Nat.le_of_ble_eq_true rfl) dX11_again_30 ⟨Nat.zero_le _, Nat.zero_le _⟩) hS (fun X7 Yq Rq H locs hq hH hS => ?_)
      obtain ⟨h9Y, h9R, hq⟩ := hq
      dsimp only at h9Y h9R
      rw [h9Y, h9R] at hH
      have hF := hF X7 hH.2.2.1 hq
      refine zd_iconst C dX11_again_33 ?_
      exact zd_zret C hr hlk hH hS (by decide) (⟨rfl, rfl, _, rfl, hF⟩) dX11_again_34
    · have hF := hF.2 c4
      refine zd_iconst C dX11_again_23 ?_
      exact zd_zret C hr hlk hH hS (by decide) (⟨rfl, rfl, _, rfl, hF⟩) dX11_again_24
theorem v_X11_again {X Y : Nat → Int → Int} {R : Nat → Int → Option Nat} {i : Nat} (a : Int) (ha : rI a) (hp : oTb X i) : F_X11_again i X Y R a := by
  unfold F_X11_again
  intro hX hY
  intro X1
  intro eX1
  have o1 : ∀ z, z ≠ i → X1 z = X z := fun z h => by rw [eX1, zU_o h]
  have b1 : oTb X1 i := fun y y0 y1 => by rw [o1 _ (by omega)]; exact hp y y0 y1
  intro rX1
  refine ⟨?_, ?_⟩
  · intro c1
    exact ⟨by rw [c1]; rfl, fun _ => eX1, fun h => absurd h (by decide)⟩
  intro c2
  have m1 := mIn_t.mp c2
  rw [o1 (i + 25) (by omega)]
  refine ⟨?_, ?_⟩
  · first | omega | exact ⟨by omega, by omega⟩ | decide | assumption | exact ⟨by omega, by omega, by omega⟩ | exact ⟨by decide, by decide⟩
  refine ⟨?_, ?_⟩
  · intro c3
    refine ⟨?_, ?_⟩
    · first | omega | exact ⟨by omega, by omega⟩ | decide | assumption | exact ⟨by omega, by omega, by omega⟩ | exact ⟨by decide, by decide⟩
    refine ⟨?_, ?_⟩
    · exact ⟨⟨by omega, by omega⟩, by decide, by omega, b1⟩
    intro X7
    intro rX7
    intro h1
    refine ⟨by rw [c2, decide_eq_true c3]; rfl, fun h => absurd h (by decide), fun _ => ⟨fun z z1 z2 => by rw [h1.1 z z2, o1 z z1], ⟨?_, fun s hs => ?_⟩, fun o g1 g2 => ?_⟩⟩
    · rw [h1.1 _ (by omega), eX1, zU_s]
    · rw [h1.1 _ (by omega), eX1, zU_n (by omega)]
    · have q := h1.2 o g1 g2
      have e0 : X1 (i + o) = X (i + o) := o1 _ (by omega)
      unfold cpO at q ⊢
      rw [e0] at q
      exact q
  intro c4
  exact ⟨by rw [decide_eq_false c4, Bool.and_false], fun _ => eX1, fun h => absurd h (by decide)⟩
theorem c_X11_again {l : Launch} {D : va_G} {cy : Nat → ClassId} {bs N : Nat} {sa : Nat → Nat} {kd len : Nat → Nat} {X Y : Nat → Int → Int} {R : Nat → Int → Option Nat} {i : Nat} (hM : zM N kd len R i) (a : Int) (ha : rI a) (hp : oTb X i) : Met l yX11_again (.code yX11_again cX11_again 2 (some .boolean) :: zTB) (zRm 2 47) (zPc D cy bs sa N kd len X Y R [.ref (bs + (i)), .int (zI (a))]) (zQi D cy bs N kd len (fun r st => st.2.1 = Y ∧ st.2.2 = R ∧ ∃ rb : Bool, r = bz rb ∧ (rb = (mIn (a) 0 2 && decide (X (i + 25) (a) ≠ 0)) ∧ (rb = false → (st.1) = zU X i 0 0) ∧ (rb = true → agK X (st.1) i (a))))) 0 0 (zA bs) := w_X11_again hM a ha (v_X11_again a ha hp)
abbrev cX11_four : ByteArray := prog_13_method_12_code
def yX11_four : MethodName := ⟨RX11, "four", "(I)V"⟩
theorem dX11_four_0 : decode cX11_four 0 = .ok (.bipush 24, 2) := by decide +kernel
theorem dX11_four_2 : decode cX11_four 2 = .ok (.istore_n 2, 1) := by decide +kernel
theorem dX11_four_3 : decode cX11_four 3 = .ok (.iload_n 2, 1) := by decide +kernel
theorem dX11_four_4 : decode cX11_four 4 = .ok (.ifCond .lt 34, 3) := by decide +kernel
theorem dX11_four_7 : decode cX11_four 7 = .ok (.aload_n 0, 1) := by decide +kernel
theorem dX11_four_8 : decode cX11_four 8 = .ok (.getfield 7, 3) := by decide +kernel
theorem dX11_four_11 : decode cX11_four 11 = .ok (.aload_n 0, 1) := by decide +kernel
theorem dX11_four_12 : decode cX11_four 12 = .ok (.getfield 13, 3) := by decide +kernel
theorem dX11_four_15 : decode cX11_four 15 = .ok (.iconst 0, 1) := by decide +kernel
theorem dX11_four_16 : decode cX11_four 16 = .ok (.iaload, 1) := by decide +kernel
theorem dX11_four_17 : decode cX11_four 17 = .ok (.iload_n 1, 1) := by decide +kernel
theorem dX11_four_18 : decode cX11_four 18 = .ok (.iload_n 2, 1) := by decide +kernel
theorem dX11_four_19 : decode cX11_four 19 = .ok (.ishr, 1) := by decide +kernel
theorem dX11_four_20 : decode cX11_four 20 = .ok (.i2b, 1) := by decide +kernel
theorem dX11_four_21 : decode cX11_four 21 = .ok (.bastore, 1) := by decide +kernel
theorem dX11_four_22 : decode cX11_four 22 = .ok (.aload_n 0, 1) := by decide +kernel
theorem dX11_four_23 : decode cX11_four 23 = .ok (.getfield 13, 3) := by decide +kernel
theorem dX11_four_26 : decode cX11_four 26 = .ok (.iconst 0, 1) := by decide +kernel
theorem dX11_four_27 : decode cX11_four 27 = .ok (.dup2, 1) := by decide +kernel
theorem dX11_four_28 : decode cX11_four 28 = .ok (.iaload, 1) := by decide +kernel
theorem dX11_four_29 : decode cX11_four 29 = .ok (.iconst 1, 1) := by decide +kernel
theorem dX11_four_30 : decode cX11_four 30 = .ok (.iadd, 1) := by decide +kernel
theorem dX11_four_31 : decode cX11_four 31 = .ok (.iastore, 1) := by decide +kernel
theorem dX11_four_32 : decode cX11_four 32 = .ok (.iinc 2 (-8), 3) := by decide +kernel
theorem dX11_four_35 : decode cX11_four 35 = .ok (.goto (-32), 3) := by decide +kernel
theorem dX11_four_38 : decode cX11_four 38 = .ok (.return_, 1) := by decide +kernel
def F_X11_four (i : Nat) (X Y : Nat → Int → Int) (R : Nat → Int → Option Nat) (a : Int) : Prop := (∀ i j, rI (X i j)) → (∀ i j, rL (Y i j)) → (∃ q : Nat, (24 : Int) = 24 - 8 * (q : Int) ∧ q ≤ 4 ∧ (∀ z, z ≠ i + 1 → z ≠ i + 2 → X z = X z) ∧ X (i + 2) = upI (X (i + 2)) 0 (X (i + 2) 0 + q) ∧ X (i + 1) = frN (X (i + 1)) (X (i + 2) 0) a q) ∧ (∀ (k : Int) (X2 : Nat → Int → Int), rI k → (∀ i j, rI (X2 i j)) → (∃ q : Nat, k = 24 - 8 * (q : Int) ∧ q ≤ 4 ∧ (∀ z, z ≠ i + 1 → z ≠ i + 2 → X2 z = X z) ∧ X2 (i + 2) = upI (X (i + 2)) 0 (X (i + 2) 0 + q) ∧ X2 (i + 1) = frN (X (i + 1)) (X (i + 2) 0) a q) → (((k < 0) → (foK X (X2) i (a))) ∧ ((¬ (k < 0)) → ((0 ≤ (X2 (i + 2) (0)) ∧ (X2 (i + 2) (0)) < 2400) ∧ (∀ X5 : Nat → Int → Int, X5 = zU X2 (i + 1) (X2 (i + 2) (0)) (zByt (zShr (a) (k))) → (∀ i j, rI (X5 i j)) → ((rI ((X5 (i + 2) (0)) + 1)) ∧ (∀ X7 : Nat → Int → Int, X7 = zU X5 (i + 2) (0) ((X5 (i + 2) (0)) + 1) → (∀ i j, rI (X7 i j)) → ((rI (k + (-8))) ∧ (∃ q : Nat, k + (-8) = 24 - 8 * (q : Int) ∧ q ≤ 4 ∧ (∀ z, z ≠ i + 1 → z ≠ i + 2 → X7 z = X z) ∧ X7 (i + 2) = upI (X (i + 2)) 0 (X (i + 2) 0 + q) ∧ X7 (i + 1) = frN (X (i + 1)) (X (i + 2) 0) a q) ∧ (((k + (-8) + 8).toNat) < ((k + 8).toNat))))))))))
set_option maxHeartbeats 4000000 in
set_option maxRecDepth 100000 in
theorem w_X11_four {l : Launch} {D : va_G} {cy : Nat → ClassId} {bs N : Nat} {sa : Nat → Nat} {kd len : Nat → Nat} {X Y : Nat → Int → Int} {R : Nat → Int → Option Nat} {i : Nat} (hM : zM N kd len R i) (a : Int) (ha : rI a) (hF : F_X11_four i X Y R a) : Met l yX11_four (.code yX11_four cX11_four 3 none :: zTB) (zRm 0 0) (zPc D cy bs sa N kd len X Y R [.ref (bs + (i)), .int (zI (a))]) (zQv D cy bs N kd len (fun st => st.2.1 = Y ∧ st.2.2 = R ∧ (foK X (st.1) i (a)))) 0 0 (zA bs) := by
  refine zstart (by decide) (Nat.le_of_ble_eq_true rfl) ?_
  intro p e s m args below meth c ls C hE hH hr hlk hnm hl hargs
  have hF := hF hH.2.2.1 hH.2.2.2
  have hS : va_S (zA bs) s.heap s.heap [] := va_S.rf
  have hl : lv_has ls 3 [(0, .ref (bs + (i))), (1, .int (zI (a)))] := hl
  refine zd_bipush C (by decide) dX11_four_0 ?_
  refine lv_istore_n (lv' := [(2, .int (zI (24))), (0, .ref (bs + (i))), (1, .int (zI (a)))]) C.1 C.2.1 dX11_four_2 rfl hl (by decide) rfl (fun ls hl => ?_)
  obtain ⟨hI1, hF⟩ := hF
  have L1 : ∀ (fu : Nat) (k : Int) (X2 : Nat → Int → Int), rI k → (∃ q : Nat, k = 24 - 8 * (q : Int) ∧ q ≤ 4 ∧ (∀ z, z ≠ i + 1 → z ≠ i + 2 → X2 z = X z) ∧ X2 (i + 2) = upI (X (i + 2)) 0 (X (i + 2) 0 + q) ∧ X2 (i + 1) = frN (X (i + 1)) (X (i + 2) 0) a q) → ((k + 8).toNat) < fu → ∀ (H : Heap) (locs : List Loc) (ls : Array Slot), zH D cy bs N kd len X2 Y R H → va_S (zA bs) s.heap H locs → lv_has ls 3 [(2, .int (zI (k))), (0, .ref (bs + (i))), (1, .int (zI (a)))] → W p l e (zRm 0 0) s m args below meth c H locs 0 0 (MQ below (zQv D cy bs N kd len (fun st => st.2.1 = Y ∧ st.2.2 = R ∧ (foK X (st.1) i (a)))) args s 0 0 (zA bs)) (F0 m 3 ls []) := by
    intro fu
    induction fu with
    | zero => intro k X2 _ _ hmu; exact absurd hmu (Nat.not_lt_zero _)
    | succ fu ih1 =>
      intro k X2 hk hI hmu1 H locs ls hH hS hl
      have hF := hF k X2 hk hH.2.2.1 hI
      refine lv_iload_n C.1 C.2.1 dX11_four_3 rfl (lv_at hl 0 rfl) ?_
      refine zd_if_lt C hk 38 dX11_four_4 (by decide) (fun c3 => ?_) (fun c3 => ?_)
      · have hF := hF.1 c3
        exact zd_vret C hr hlk hH hS (⟨rfl, rfl, hF⟩) dX11_four_38
      · have hF := hF.2 c3
        refine lv_aload_n C.1 C.2.1 dX11_four_7 rfl (lv_at hl 1 rfl) ?_
        refine zg11_1 C hH (zM_n0 hM) (zM_k0 hM) q_1288 (zM_r1 hM) dX11_four_8 ?_
        refine lv_aload_n C.1 C.2.1 dX11_four_11 rfl (lv_at hl 1 rfl) ?_
        refine zg11_2 C hH (zM_n0 hM) (zM_k0 hM) q_1289 (zM_r2 hM) dX11_four_12 ?_
        refine zd_iconst C dX11_four_15 ?_
        refine zd_iald C hH (zM_n2 hM) (zM_k2 hM) (by decide) (by rw [zM_l2 hM]; decide) (by rw [zM_l2 hM]; decide) dX11_four_16 ?_
        refine lv_iload_n C.1 C.2.1 dX11_four_17 rfl (lv_at hl 2 rfl) ?_
        refine lv_iload_n C.1 C.2.1 dX11_four_18 rfl (lv_at hl 0 rfl) ?_
        refine zd_ishr C dX11_four_19 ?_
        refine zd_i2b C dX11_four_20 ?_
        obtain ⟨o4, hF⟩ := hF
        refine zd_bast C hH hS (zM_n1 hM) (zM_k1 hM) o4.1 (by rw [zM_l1 hM]; exact o4.2) (by rw [zM_l1 hM]; decide) (zByt_b _) dX11_four_21 (fun H locs hH hS => ?_)
        obtain ⟨X5, eX5⟩ : ∃ z, z = zU X2 (i + 1) (X2 (i + 2) (0)) (zByt (zShr (a) (k))) := ⟨_, rfl⟩
        rw [← eX5] at hH
        have hF := hF X5 eX5 hH.2.2.1
        refine lv_aload_n C.1 C.2.1 dX11_four_22 rfl (lv_at hl 1 rfl) ?_
        refine zg11_2 C hH (zM_n0 hM) (zM_k0 hM) q_1289 (zM_r2 hM) dX11_four_23 ?_
        refine zd_iconst C dX11_four_26 ?_
        refine lv_dup2_11 C.1 C.2.1 dX11_four_27 rfl rfl ?_
        refine zd_iald C hH (zM_n2 hM) (zM_k2 hM) (by decide) (by rw [zM_l2 hM]; decide) (by rw [zM_l2 hM]; decide) dX11_four_28 ?_
        refine zd_iconst C dX11_four_29 ?_
        refine zd_iadd C dX11_four_30 ?_
        obtain ⟨o6, hF⟩ := hF
        refine zd_iast C hH hS (zM_n2 hM) (zM_k2 hM) (by decide) (by rw [zM_l2 hM]; decide) (by rw [zM_l2 hM]; decide) o6 dX11_four_31 (fun H locs hH hS => ?_)
        obtain ⟨X7, eX7⟩ : ∃ z, z = zU X5 (i + 2) (0) ((X5 (i + 2) (0)) + 1) := ⟨_, rfl⟩
        rw [← eX7] at hH
        have hF := hF X7 eX7 hH.2.2.1
        refine zd_iinc (k := 0) (lv' := [(2, .int (zI (k + (-8)))), (0, .ref (bs + (i))), (1, .int (zI (a)))]) C hl rfl dX11_four_32 (by decide) rfl (fun ls hl => ?_)
        refine lv_goto (tgt := 3) C.1 C.2.1 dX11_four_35 (by decide) ?_
        obtain ⟨o8, hF⟩ := hF
        exact ih1 (k + (-8)) X7 o8 hF.1 (Nat.lt_of_lt_of_le hF.2 (Nat.le_of_lt_succ hmu1)) _ _ _ hH hS (lv_sub hl [0, 1, 2] rfl)
  exact L1 ((((24 : Int) + 8).toNat) + 1) ((24 : Int)) X (by decide) hI1 (Nat.lt_succ_self _) _ _ _ hH hS (lv_sub hl [0, 1, 2] rfl)
theorem v_X11_four {X Y : Nat → Int → Int} {R : Nat → Int → Option Nat} {i : Nat} (a : Int) (ha : rI a) (hp : 0 ≤ X (i + 2) 0 ∧ X (i + 2) 0 ≤ 2000) : F_X11_four i X Y R a := by
  unfold F_X11_four
  intro hX hY
  refine ⟨?_, ?_⟩
  · refine ⟨0, by decide, by decide, fun _ _ _ => rfl, ?_, rfl⟩
    funext y
    unfold upI
    by_cases e : y = 0
    · rw [if_pos e, e]
      show _ = _ + 0
      omega
    · rw [if_neg e]
  intro k X2
  intro _
  intro rX2
  intro h1
  obtain ⟨q, hq, q4, hz, hs, ht⟩ := h1
  subst hq
  have g : X2 (i + 2) 0 = X (i + 2) 0 + q := by rw [hs]; exact if_pos rfl
  rw [g]
  refine ⟨?_, ?_⟩
  · intro c1
    have e : q = 4 := by omega
    subst e
    exact ⟨hz, hs, ht⟩
  intro c2
  refine ⟨?_, ?_⟩
  · first | omega | exact ⟨by omega, by omega⟩ | decide | assumption | exact ⟨by omega, by omega, by omega⟩ | exact ⟨by decide, by decide⟩
  intro X5
  intro eX5
  have e52 : X5 (i + 2) 0 = X (i + 2) 0 + q := by rw [eX5, zU_o (by omega), g]
  rw [e52]
  intro rX5
  refine ⟨?_, ?_⟩
  · first | omega | exact ⟨by omega, by omega⟩ | decide | assumption | exact ⟨by omega, by omega, by omega⟩ | exact ⟨by decide, by decide⟩
  intro X7
  intro eX7
  intro rX7
  refine ⟨?_, ?_⟩
  · first | omega | exact ⟨by omega, by omega⟩ | decide | assumption | exact ⟨by omega, by omega, by omega⟩ | exact ⟨by decide, by decide⟩
  refine ⟨?_, ?_⟩
  · refine ⟨q + 1, by omega, by omega, fun z z1 z2 => by rw [eX7, zU_o z2, eX5, zU_o z1]; exact hz z z1 z2, ?_, ?_⟩
    · rw [eX7, zU_up, eX5, zU_o (by omega), hs]
      funext y
      unfold upI
      by_cases e : y = 0
      · rw [if_pos e, if_pos e]
        omega
      · rw [if_neg e, if_neg e, if_neg e]
    · rw [eX7, zU_o (by omega), eX5, zU_up, ht]
      rfl
  first | omega | exact ⟨by omega, by omega⟩ | decide | assumption | exact ⟨by omega, by omega, by omega⟩ | exact ⟨by decide, by decide⟩
theorem c_X11_four {l : Launch} {D : va_G} {cy : Nat → ClassId} {bs N : Nat} {sa : Nat → Nat} {kd len : Nat → Nat} {X Y : Nat → Int → Int} {R : Nat → Int → Option Nat} {i : Nat} (hM : zM N kd len R i) (a : Int) (ha : rI a) (hp : 0 ≤ X (i + 2) 0 ∧ X (i + 2) 0 ≤ 2000) : Met l yX11_four (.code yX11_four cX11_four 3 none :: zTB) (zRm 0 0) (zPc D cy bs sa N kd len X Y R [.ref (bs + (i)), .int (zI (a))]) (zQv D cy bs N kd len (fun st => st.2.1 = Y ∧ st.2.2 = R ∧ (foK X (st.1) i (a)))) 0 0 (zA bs) := w_X11_four hM a ha (v_X11_four a ha hp)
abbrev cX11_feed : ByteArray := prog_13_method_11_code
def yX11_feed : MethodName := ⟨RX11, "feed", "(IIIII)I"⟩
theorem dX11_feed_0 : decode cX11_feed 0 = .ok (.aload_n 0, 1) := by decide +kernel
theorem dX11_feed_1 : decode cX11_feed 1 = .ok (.iconst 0, 1) := by decide +kernel
theorem dX11_feed_2 : decode cX11_feed 2 = .ok (.putfield 88, 3) := by decide +kernel
theorem dX11_feed_5 : decode cX11_feed 5 = .ok (.aload_n 0, 1) := by decide +kernel
theorem dX11_feed_6 : decode cX11_feed 6 = .ok (.getfield 13, 3) := by decide +kernel
theorem dX11_feed_9 : decode cX11_feed 9 = .ok (.iconst 0, 1) := by decide +kernel
theorem dX11_feed_10 : decode cX11_feed 10 = .ok (.iaload, 1) := by decide +kernel
theorem dX11_feed_11 : decode cX11_feed 11 = .ok (.bipush 20, 2) := by decide +kernel
theorem dX11_feed_13 : decode cX11_feed 13 = .ok (.iadd, 1) := by decide +kernel
theorem dX11_feed_14 : decode cX11_feed 14 = .ok (.sipush 600, 3) := by decide +kernel
theorem dX11_feed_17 : decode cX11_feed 17 = .ok (.if_icmp .le 5, 3) := by decide +kernel
theorem dX11_feed_20 : decode cX11_feed 20 = .ok (.iconst (-1), 1) := by decide +kernel
theorem dX11_feed_21 : decode cX11_feed 21 = .ok (.ireturn, 1) := by decide +kernel
theorem dX11_feed_22 : decode cX11_feed 22 = .ok (.aload_n 0, 1) := by decide +kernel
theorem dX11_feed_23 : decode cX11_feed 23 = .ok (.iload_n 1, 1) := by decide +kernel
theorem dX11_feed_24 : decode cX11_feed 24 = .ok (.invokevirtual 104, 3) := by decide +kernel
theorem dX11_feed_27 : decode cX11_feed 27 = .ok (.aload_n 0, 1) := by decide +kernel
theorem dX11_feed_28 : decode cX11_feed 28 = .ok (.iload_n 2, 1) := by decide +kernel
theorem dX11_feed_29 : decode cX11_feed 29 = .ok (.invokevirtual 104, 3) := by decide +kernel
theorem dX11_feed_32 : decode cX11_feed 32 = .ok (.aload_n 0, 1) := by decide +kernel
theorem dX11_feed_33 : decode cX11_feed 33 = .ok (.iload_n 3, 1) := by decide +kernel
theorem dX11_feed_34 : decode cX11_feed 34 = .ok (.invokevirtual 104, 3) := by decide +kernel
theorem dX11_feed_37 : decode cX11_feed 37 = .ok (.aload_n 0, 1) := by decide +kernel
theorem dX11_feed_38 : decode cX11_feed 38 = .ok (.iload 4, 2) := by decide +kernel
theorem dX11_feed_40 : decode cX11_feed 40 = .ok (.invokevirtual 104, 3) := by decide +kernel
theorem dX11_feed_43 : decode cX11_feed 43 = .ok (.aload_n 0, 1) := by decide +kernel
theorem dX11_feed_44 : decode cX11_feed 44 = .ok (.iload 5, 2) := by decide +kernel
theorem dX11_feed_46 : decode cX11_feed 46 = .ok (.invokevirtual 104, 3) := by decide +kernel
theorem dX11_feed_49 : decode cX11_feed 49 = .ok (.aload_n 0, 1) := by decide +kernel
theorem dX11_feed_50 : decode cX11_feed 50 = .ok (.getfield 13, 3) := by decide +kernel
theorem dX11_feed_53 : decode cX11_feed 53 = .ok (.iconst 0, 1) := by decide +kernel
theorem dX11_feed_54 : decode cX11_feed 54 = .ok (.iaload, 1) := by decide +kernel
theorem dX11_feed_55 : decode cX11_feed 55 = .ok (.ireturn, 1) := by decide +kernel
theorem q_1490 : Cond.methodLink RX11 104 yX11_four ∈ zTB := zmem 1490 (by decide +kernel) rfl
theorem q_1492 : Cond.instanceMethod yX11_four ∈ zTB := zmem 1492 (by decide +kernel) rfl
theorem q_33 : Cond.selects RX11 yX11_four yX11_four ∈ zTB := zmem 33 (by decide +kernel) rfl
theorem q_1493 : Cond.code yX11_four cX11_four 3 none ∈ zTB := zmem 1493 (by decide +kernel) rfl
theorem k_RX11_104 : zLv RX11 104 RX11 yX11_four cX11_four 3 none 1 := ⟨⟨q_1490, q_1492, q_33, q_140, q_1493⟩, rfl, ⟨by decide, by decide⟩, by decide +kernel⟩
def F_X11_feed (i : Nat) (X Y : Nat → Int → Int) (R : Nat → Int → Option Nat) (a : Int) (b : Int) (g : Int) (d : Int) (f : Int) : Prop := (∀ i j, rI (X i j)) → (∀ i j, rL (Y i j)) → ∀ X1 : Nat → Int → Int, X1 = zU X (i) 0 (0) → (∀ i j, rI (X1 i j)) → ((rI ((X1 (i + 2) (0)) + 20)) ∧ (((((X1 (i + 2) (0)) + 20) ≤ 600) → ((0 ≤ X1 (i + 2) 0 ∧ X1 (i + 2) 0 ≤ 2000) ∧ (∀ X5 : Nat → Int → Int, (∀ i j, rI (X5 i j)) → (foK X1 (X5) i (a)) → ((0 ≤ X5 (i + 2) 0 ∧ X5 (i + 2) 0 ≤ 2000) ∧ (∀ X7 : Nat → Int → Int, (∀ i j, rI (X7 i j)) → (foK X5 (X7) i (b)) → ((0 ≤ X7 (i + 2) 0 ∧ X7 (i + 2) 0 ≤ 2000) ∧ (∀ X9 : Nat → Int → Int, (∀ i j, rI (X9 i j)) → (foK X7 (X9) i (g)) → ((0 ≤ X9 (i + 2) 0 ∧ X9 (i + 2) 0 ≤ 2000) ∧ (∀ X11 : Nat → Int → Int, (∀ i j, rI (X11 i j)) → (foK X9 (X11) i (d)) → ((0 ≤ X11 (i + 2) 0 ∧ X11 (i + 2) 0 ≤ 2000) ∧ (∀ X13 : Nat → Int → Int, (∀ i j, rI (X13 i j)) → (foK X11 (X13) i (f)) → (if X (i + 2) 0 + 20 ≤ 600 then X13 (i + 2) (0) = X (i + 2) 0 + 20 ∧ (∀ z, z ≠ i → z ≠ i + 1 → z ≠ i + 2 → (X13) z = X z) ∧ (X13) i = zU X i 0 0 i ∧ (X13) (i + 2) = upI (X (i + 2)) 0 (X (i + 2) 0 + 20) ∧ (X13) (i + 1) = frA (X (i + 1)) (X (i + 2) 0) (a) (b) (g) (d) (f) else X13 (i + 2) (0) = -1 ∧ (X13) = zU X i 0 0)))))))))))) ∧ ((¬ (((X1 (i + 2) (0)) + 20) ≤ 600)) → (if X (i + 2) 0 + 20 ≤ 600 then (-1) = X (i + 2) 0 + 20 ∧ (∀ z, z ≠ i → z ≠ i + 1 → z ≠ i + 2 → (X1) z = X z) ∧ (X1) i = zU X i 0 0 i ∧ (X1) (i + 2) = upI (X (i + 2)) 0 (X (i + 2) 0 + 20) ∧ (X1) (i + 1) = frA (X (i + 1)) (X (i + 2) 0) (a) (b) (g) (d) (f) else (-1) = -1 ∧ (X1) = zU X i 0 0))))
set_option maxHeartbeats 4000000 in
set_option maxRecDepth 100000 in
theorem w_X11_feed {l : Launch} {D : va_G} {cy : Nat → ClassId} {bs N : Nat} {sa : Nat → Nat} {kd len : Nat → Nat} {X Y : Nat → Int → Int} {R : Nat → Int → Option Nat} {i : Nat} (hM : zM N kd len R i) (a : Int) (ha : rI a) (b : Int) (hb : rI b) (g : Int) (hg : rI g) (d : Int) (hd : rI d) (f : Int) (hf : rI f) (hF : F_X11_feed i X Y R a b g d f) : Met l yX11_feed (.code yX11_feed cX11_feed 6 (some .int) :: zTB) (zRm 1 22) (zPc D cy bs sa N kd len X Y R [.ref (bs + (i)), .int (zI (a)), .int (zI (b)), .int (zI (g)), .int (zI (d)), .int (zI (f))]) (zQi D cy bs N kd len (fun r st => st.2.1 = Y ∧ st.2.2 = R ∧ (if X (i + 2) 0 + 20 ≤ 600 then r = X (i + 2) 0 + 20 ∧ (∀ z, z ≠ i → z ≠ i + 1 → z ≠ i + 2 → (st.1) z = X z) ∧ (st.1) i = zU X i 0 0 i ∧ (st.1) (i + 2) = upI (X (i + 2)) 0 (X (i + 2) 0 + 20) ∧ (st.1) (i + 1) = frA (X (i + 1)) (X (i + 2) 0) (a) (b) (g) (d) (f) else r = -1 ∧ (st.1) = zU X i 0 0))) 0 0 (zA bs) := by
  refine zstart (by decide) (Nat.le_of_ble_eq_true rfl) ?_
  intro p e s m args below meth c ls C hE hH hr hlk hnm hl hargs
  have hF := hF hH.2.2.1 hH.2.2.2
  have hS : va_S (zA bs) s.heap s.heap [] := va_S.rf
  have hl : lv_has ls 6 [(0, .ref (bs + (i))), (1, .int (zI (a))), (2, .int (zI (b))), (3, .int (zI (g))), (4, .int (zI (d))), (5, .int (zI (f)))] := hl
  refine lv_aload_n C.1 C.2.1 dX11_feed_0 rfl (lv_at hl 0 rfl) ?_
  refine zd_iconst C dX11_feed_1 ?_
  refine zp11_0 C hH hS (zM_n0 hM) (zM_k0 hM) q_1287 (by decide) dX11_feed_2 (fun H locs hH hS => ?_)
  obtain ⟨X1, eX1⟩ : ∃ z, z = zU X (i) 0 (0) := ⟨_, rfl⟩
  rw [← eX1] at hH
  have hF := hF X1 eX1 hH.2.2.1
  refine lv_aload_n C.1 C.2.1 dX11_feed_5 rfl (lv_at hl 0 rfl) ?_
  refine zg11_2 C hH (zM_n0 hM) (zM_k0 hM) q_1289 (zM_r2 hM) dX11_feed_6 ?_
  refine zd_iconst C dX11_feed_9 ?_
  refine zd_iald C hH (zM_n2 hM) (zM_k2 hM) (by decide) (by rw [zM_l2 hM]; decide) (by rw [zM_l2 hM]; decide) dX11_feed_10 ?_
  refine zd_bipush C (by decide) dX11_feed_11 ?_
  refine zd_iadd C dX11_feed_13 ?_
  refine zd_sipush C (by decide) dX11_feed_14 ?_
  obtain ⟨o3, hF⟩ := hF
  refine zd_icmp_le C o3 (by decide) 22 dX11_feed_17 (by decide) (fun c2 => ?_) (fun c2 => ?_)
  · have hF := hF.1 c2
    refine lv_aload_n C.1 C.2.1 dX11_feed_22 rfl (lv_at hl 0 rfl) ?_
    refine lv_iload_n C.1 C.2.1 dX11_feed_23 rfl (lv_at hl 1 rfl) ?_
    obtain ⟨o4, hF⟩ := hF
    refine zgov (zrunV (As := [.int (zI (a))]) (rest := []) C hE hH hS hl.1 (c_X11_four (l := l) hM (a) ha o4) k_RX11_104 ⟨Nat.le_of_ble_eq_true rfl, Nat.le_of_ble_eq_true rfl⟩ (zM_n0 hM) (zM_k0 hM) rfl rfl rfl (Nat.le_of_ble_eq_true rfl) dX11_feed_24 ⟨Nat.zero_le _, Nat.zero_le _⟩) hS (fun X5 Yq Rq H locs hq hH hS => ?_)
    obtain ⟨h9Y, h9R, hq⟩ := hq
    dsimp only at h9Y h9R
    rw [h9Y, h9R] at hH
    have hF := hF X5 hH.2.2.1 hq
    refine lv_aload_n C.1 C.2.1 dX11_feed_27 rfl (lv_at hl 0 rfl) ?_
    refine lv_iload_n C.1 C.2.1 dX11_feed_28 rfl (lv_at hl 2 rfl) ?_
    obtain ⟨o6, hF⟩ := hF
    refine zgov (zrunV (As := [.int (zI (b))]) (rest := []) C hE hH hS hl.1 (c_X11_four (l := l) hM (b) hb o6) k_RX11_104 ⟨Nat.le_of_ble_eq_true rfl, Nat.le_of_ble_eq_true rfl⟩ (zM_n0 hM) (zM_k0 hM) rfl rfl rfl (Nat.le_of_ble_eq_true rfl) dX11_feed_29 ⟨Nat.zero_le _, Nat.zero_le _⟩) hS (fun X7 Yq Rq H locs hq hH hS => ?_)
    obtain ⟨h9Y, h9R, hq⟩ := hq
    dsimp only at h9Y h9R
    rw [h9Y, h9R] at hH
    have hF := hF X7 hH.2.2.1 hq
    refine lv_aload_n C.1 C.2.1 dX11_feed_32 rfl (lv_at hl 0 rfl) ?_
    refine lv_iload_n C.1 C.2.1 dX11_feed_33 rfl (lv_at hl 3 rfl) ?_
    obtain ⟨o8, hF⟩ := hF
    refine zgov (zrunV (As := [.int (zI (g))]) (rest := []) C hE hH hS hl.1 (c_X11_four (l := l) hM (g) hg o8) k_RX11_104 ⟨Nat.le_of_ble_eq_true rfl, Nat.le_of_ble_eq_true rfl⟩ (zM_n0 hM) (zM_k0 hM) rfl rfl rfl (Nat.le_of_ble_eq_true rfl) dX11_feed_34 ⟨Nat.zero_le _, Nat.zero_le _⟩) hS (fun X9 Yq Rq H locs hq hH hS => ?_)
    obtain ⟨h9Y, h9R, hq⟩ := hq
    dsimp only at h9Y h9R
    rw [h9Y, h9R] at hH
    have hF := hF X9 hH.2.2.1 hq
    refine lv_aload_n C.1 C.2.1 dX11_feed_37 rfl (lv_at hl 0 rfl) ?_
    refine lv_iload C.1 C.2.1 dX11_feed_38 (lv_at hl 4 rfl) ?_
    obtain ⟨o10, hF⟩ := hF
    refine zgov (zrunV (As := [.int (zI (d))]) (rest := []) C hE hH hS hl.1 (c_X11_four (l := l) hM (d) hd o10) k_RX11_104 ⟨Nat.le_of_ble_eq_true rfl, Nat.le_of_ble_eq_true rfl⟩ (zM_n0 hM) (zM_k0 hM) rfl rfl rfl (Nat.le_of_ble_eq_true rfl) dX11_feed_40 ⟨Nat.zero_le _, Nat.zero_le _⟩) hS (fun X11 Yq Rq H locs hq hH hS => ?_)
    obtain ⟨h9Y, h9R, hq⟩ := hq
    dsimp only at h9Y h9R
    rw [h9Y, h9R] at hH
    have hF := hF X11 hH.2.2.1 hq
    refine lv_aload_n C.1 C.2.1 dX11_feed_43 rfl (lv_at hl 0 rfl) ?_
    refine lv_iload C.1 C.2.1 dX11_feed_44 (lv_at hl 5 rfl) ?_
    obtain ⟨o12, hF⟩ := hF
    refine zgov (zrunV (As := [.int (zI (f))]) (rest := []) C hE hH hS hl.1 (c_X11_four (l := l) hM (f) hf o12) k_RX11_104 ⟨Nat.le_of_ble_eq_true rfl, Nat.le_of_ble_eq_true rfl⟩ (zM_n0 hM) (zM_k0 hM) rfl rfl rfl (Nat.le_of_ble_eq_true rfl) dX11_feed_46 ⟨Nat.zero_le _, Nat.zero_le _⟩) hS (fun X13 Yq Rq H locs hq hH hS => ?_)
    obtain ⟨h9Y, h9R, hq⟩ := hq
    dsimp only at h9Y h9R
    rw [h9Y, h9R] at hH
    have hF := hF X13 hH.2.2.1 hq
    refine lv_aload_n C.1 C.2.1 dX11_feed_49 rfl (lv_at hl 0 rfl) ?_
    refine zg11_2 C hH (zM_n0 hM) (zM_k0 hM) q_1289 (zM_r2 hM) dX11_feed_50 ?_
    refine zd_iconst C dX11_feed_53 ?_
    refine zd_iald C hH (zM_n2 hM) (zM_k2 hM) (by decide) (by rw [zM_l2 hM]; decide) (by rw [zM_l2 hM]; decide) dX11_feed_54 ?_
    exact zd_iret C hr hlk hH hS (hH.2.2.1 _ _) (⟨rfl, rfl, hF⟩) dX11_feed_55
  · have hF := hF.2 c2
    refine zd_iconst C dX11_feed_20 ?_
    exact zd_iret C hr hlk hH hS (by decide) (⟨rfl, rfl, hF⟩) dX11_feed_21
theorem v_X11_feed {X Y : Nat → Int → Int} {R : Nat → Int → Option Nat} {i : Nat} (a : Int) (ha : rI a) (b : Int) (hb : rI b) (g : Int) (hg : rI g) (d : Int) (hd : rI d) (f : Int) (hf : rI f) (hp : oTp X i) : F_X11_feed i X Y R a b g d f := by
  unfold F_X11_feed
  intro hX hY
  obtain ⟨hp0, hp1⟩ := hp
  intro X1
  intro eX1
  have o0 : ∀ z, z ≠ i → X1 z = X z := fun z h => by rw [eX1, zU_o h]
  have g0 : X1 (i + 2) 0 = X (i + 2) 0 + 0 := by rw [o0 _ (by omega)]; omega
  have e0 : X (i + 2) 0 + 0 = X (i + 2) 0 := by omega
  rw [g0, e0]
  intro rX1
  refine ⟨?_, ?_⟩
  · first | omega | exact ⟨by omega, by omega⟩ | decide | assumption | exact ⟨by omega, by omega, by omega⟩ | exact ⟨by decide, by decide⟩
  refine ⟨?_, ?_⟩
  · intro c1
    refine ⟨?_, ?_⟩
    · exact ⟨by omega, by omega⟩
    intro X5
    intro rX5
    intro h1
    obtain ⟨o1, s1, t1⟩ := h1
    have g1 : X5 (i + 2) 0 = X (i + 2) 0 + 4 := by rw [s1]; show (if (0 : Int) = 0 then X1 (i + 2) 0 + 4 else _) = _; rw [if_pos rfl, g0]; omega
    refine ⟨?_, ?_⟩
    · rw [g1]
      exact ⟨by omega, by omega⟩
    intro X7
    intro rX7
    intro h2
    obtain ⟨o2, s2, t2⟩ := h2
    have g2 : X7 (i + 2) 0 = X (i + 2) 0 + 8 := by rw [s2]; show (if (0 : Int) = 0 then X5 (i + 2) 0 + 4 else _) = _; rw [if_pos rfl, g1]; omega
    refine ⟨?_, ?_⟩
    · rw [g2]
      exact ⟨by omega, by omega⟩
    intro X9
    intro rX9
    intro h3
    obtain ⟨o3, s3, t3⟩ := h3
    have g3 : X9 (i + 2) 0 = X (i + 2) 0 + 12 := by rw [s3]; show (if (0 : Int) = 0 then X7 (i + 2) 0 + 4 else _) = _; rw [if_pos rfl, g2]; omega
    refine ⟨?_, ?_⟩
    · rw [g3]
      exact ⟨by omega, by omega⟩
    intro X11
    intro rX11
    intro h4
    obtain ⟨o4, s4, t4⟩ := h4
    have g4 : X11 (i + 2) 0 = X (i + 2) 0 + 16 := by rw [s4]; show (if (0 : Int) = 0 then X9 (i + 2) 0 + 4 else _) = _; rw [if_pos rfl, g3]; omega
    refine ⟨?_, ?_⟩
    · rw [g4]
      exact ⟨by omega, by omega⟩
    intro X13
    intro rX13
    intro h5
    obtain ⟨o5, s5, t5⟩ := h5
    have g5 : X13 (i + 2) 0 = X (i + 2) 0 + 20 := by rw [s5]; show (if (0 : Int) = 0 then X11 (i + 2) 0 + 4 else _) = _; rw [if_pos rfl, g4]; omega
    rw [if_pos c1, g5]
    refine ⟨rfl, fun z z0 z1 z2 => by rw [o5 z z1 z2, o4 z z1 z2, o3 z z1 z2, o2 z z1 z2, o1 z z1 z2, o0 z z0], ?_, ?_, ?_⟩
    · rw [o5 _ (by omega) (by omega), o4 _ (by omega) (by omega), o3 _ (by omega) (by omega), o2 _ (by omega) (by omega), o1 _ (by omega) (by omega), eX1]
    · rw [s5, g4, s4, s3, s2, s1, o0 _ (by omega)]
      funext y
      unfold upI
      by_cases e : y = 0
      · rw [if_pos e, if_pos e]
        omega
      · rw [if_neg e, if_neg e, if_neg e, if_neg e, if_neg e, if_neg e]
    · rw [t5, g4, t4, g3, t3, g2, t2, g1, t1, g0, e0, o0 _ (by omega)]
      rfl
  intro c2
  rw [if_neg c2]
  exact ⟨rfl, eX1⟩
theorem c_X11_feed {l : Launch} {D : va_G} {cy : Nat → ClassId} {bs N : Nat} {sa : Nat → Nat} {kd len : Nat → Nat} {X Y : Nat → Int → Int} {R : Nat → Int → Option Nat} {i : Nat} (hM : zM N kd len R i) (a : Int) (ha : rI a) (b : Int) (hb : rI b) (g : Int) (hg : rI g) (d : Int) (hd : rI d) (f : Int) (hf : rI f) (hp : oTp X i) : Met l yX11_feed (.code yX11_feed cX11_feed 6 (some .int) :: zTB) (zRm 1 22) (zPc D cy bs sa N kd len X Y R [.ref (bs + (i)), .int (zI (a)), .int (zI (b)), .int (zI (g)), .int (zI (d)), .int (zI (f))]) (zQi D cy bs N kd len (fun r st => st.2.1 = Y ∧ st.2.2 = R ∧ (if X (i + 2) 0 + 20 ≤ 600 then r = X (i + 2) 0 + 20 ∧ (∀ z, z ≠ i → z ≠ i + 1 → z ≠ i + 2 → (st.1) z = X z) ∧ (st.1) i = zU X i 0 0 i ∧ (st.1) (i + 2) = upI (X (i + 2)) 0 (X (i + 2) 0 + 20) ∧ (st.1) (i + 1) = frA (X (i + 1)) (X (i + 2) 0) (a) (b) (g) (d) (f) else r = -1 ∧ (st.1) = zU X i 0 0))) 0 0 (zA bs) := w_X11_feed hM a ha b hb g hg d hd f hf (v_X11_feed a ha b hb g hg d hd f hf hp)
