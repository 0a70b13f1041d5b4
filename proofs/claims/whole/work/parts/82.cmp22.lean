/-! THE COURSE'S CELLS: the chart at i, the course right behind it -/
def zCourse (N : Nat) (kd len : Nat → Nat) (R : Nat → Int → Option Nat) (i : Nat) : Prop := zChart N kd len R i ∧ i + 48 < N ∧ kd (i + 47) = 2 ∧ kd (i + 48) = 13 ∧ len (i + 48) = 15 ∧ R (i + 47) 0 = some i ∧ R (i + 47) 3 = some (i + 48)
theorem zCo_n {N : Nat} {kd len : Nat → Nat} {R : Nat → Int → Option Nat} {i : Nat} (h : zCourse N kd len R i) : i + 47 < N := by have := h.2.1; omega
theorem zCo_k {N : Nat} {kd len : Nat → Nat} {R : Nat → Int → Option Nat} {i : Nat} (h : zCourse N kd len R i) : kd (i + 47) = 2 := h.2.2.1
theorem zCo_n8 {N : Nat} {kd len : Nat → Nat} {R : Nat → Int → Option Nat} {i : Nat} (h : zCourse N kd len R i) : i + 48 < N := h.2.1
theorem zCo_k8 {N : Nat} {kd len : Nat → Nat} {R : Nat → Int → Option Nat} {i : Nat} (h : zCourse N kd len R i) : kd (i + 48) = 13 := h.2.2.2.1
theorem zCo_l8 {N : Nat} {kd len : Nat → Nat} {R : Nat → Int → Option Nat} {i : Nat} (h : zCourse N kd len R i) : len (i + 48) = 15 := h.2.2.2.2.1
theorem zCo_r0 {N : Nat} {kd len : Nat → Nat} {R : Nat → Int → Option Nat} {i : Nat} (h : zCourse N kd len R i) : R (i + 47) 0 = some i := h.2.2.2.2.2.1
theorem zCo_r3 {N : Nat} {kd len : Nat → Nat} {R : Nat → Int → Option Nat} {i : Nat} (h : zCourse N kd len R i) : R (i + 47) 3 = some (i + 48) := h.2.2.2.2.2.2
def coSl : List Int := [4, 5, 6, 7, 2, 8, 10, 11, 12, 13]
/-- the ten numbers of a course, and since when blocks are whole -/
def coX (X : Nat → Int → Int) (i : Nat) : Nat → Int := fun s => if s < 10 then X (i + 47) (coSl.getD s 0) else 0
def coT (X : Nat → Int → Int) (i : Nat) : Cs := (coX X i, fun j => X (i + 48) j)
/-- a course and a chart's sums and favourites may differ -/
def cfK (X X1 Y Y1 : Nat → Int → Int) (i : Nat) : Prop := (∀ z, z ≠ i + 16 → z ≠ i + 47 → z ≠ i + 48 → X1 z = X z) ∧ (X1 (i + 47) 1 = X (i + 47) 1) ∧ ∀ z, z ≠ i + 15 → Y1 z = Y z
theorem cfK.rf {X Y : Nat → Int → Int} {i : Nat} : cfK X X Y Y i := ⟨fun _ _ _ _ => rfl, rfl, fun _ _ => rfl⟩
theorem cfK.tr {X X1 X2 Y Y1 Y2 : Nat → Int → Int} {i : Nat} (h : cfK X X1 Y Y1 i) (g : cfK X1 X2 Y1 Y2 i) : cfK X X2 Y Y2 i := ⟨fun z a b d => (g.1 z a b d).trans (h.1 z a b d), g.2.1.trans h.2.1, fun z a => (g.2.2 z a).trans (h.2.2 z a)⟩
theorem cA_f {Z : Nat → Int → Int} {q : Nat} {X X1 Y Y1 : Nat → Int → Int} {R : Nat → Int → Option Nat} {i : Nat} (k : ∀ z, z < i + 47 → z ≠ i + 16 → X1 z = X z) (ky : ∀ z, z ≠ i + 15 → Y1 z = Y z) (h : cA Z q X Y R i) : cA Z q X1 Y1 R i := by
  obtain ⟨⟨⟨h1, h2⟩, h3, ⟨h4, h5⟩, h6⟩, hN, ⟨h7, h8⟩, h9, h10⟩ := h
  have b : bR Z q X1 (cb R i) := by
    unfold bR
    rw [k _ (by omega) (by omega), k (cb R i + 1) (by omega) (by omega), k (cb R i + 2) (by omega) (by omega), k (cb R i + 3) (by omega) (by omega), k (cb R i + 4) (by omega) (by omega), k (cb R i + 5) (by omega) (by omega)]
    exact h4
  refine ⟨⟨⟨h1, ?_⟩, by rw [k i (by omega) (by omega)]; exact h3, ⟨b, h5⟩, fun z hz => ?_⟩, hN, ⟨?_, h8⟩, fun z hz => ?_, ?_, fun z hz M hM => ?_⟩
  · unfold chI
    rw [k (i + 9) (by omega) (by omega), k (i + 11) (by omega) (by omega)]
    exact h2
  · rw [k (i + 9) (by omega) (by omega), k (i + 10) (by omega) (by omega), k (i + 11) (by omega) (by omega)]
    exact h6 z hz
  · unfold nR
    rw [k _ (by omega) (by omega), k (cn R i + 1) (by omega) (by omega)]
    exact h7
  · rw [ky (i + 12) (by omega), ky (i + 13) (by omega)]
    exact h9 z hz
  · rw [k i (by omega) (by omega)]
    exact h10.1
  · have := h1.1
    rw [k _ (by omega) (by omega), k (i + 17 + 2 * z + 1) (by omega) (by omega)]
    exact h10.2 z hz M hM
theorem coX_U {X : Nat → Int → Int} {i : Nat} (s : Nat) (hs : s < 10) (v : Int) : coX (zU X (i + 47) (coSl.getD s 0) v) i = cU (coX X i) s v := funext fun z => by
  show (if z < 10 then zU X (i + 47) (coSl.getD s 0) v (i + 47) (coSl.getD z 0) else 0) = if z = s then v else (if z < 10 then X (i + 47) (coSl.getD z 0) else 0)
  by_cases g : z < 10
  · rw [if_pos g, if_pos g]
    by_cases e : z = s
    · rw [e, if_pos rfl, zU_s]
    · rw [if_neg e, zU_n (fun w => (by decide : ∀ s, s < 10 → ∀ z, z < 10 → z ≠ s → coSl.getD z 0 ≠ coSl.getD s 0) s hs z g e w.2)]
  · rw [if_neg g, if_neg g, if_neg (by omega)]
theorem coX_k {X X1 : Nat → Int → Int} {i : Nat} (h : X1 (i + 47) = X (i + 47)) : coX X1 i = coX X i := by
  unfold coX
  rw [h]
theorem coX_N {X X1 : Nat → Int → Int} {i : Nat} (h : ∀ s, s ∈ coSl → X1 (i + 47) s = X (i + 47) s) : coX X1 i = coX X i := funext fun z => by
  unfold coX
  split
  · exact h _ ((by decide : ∀ z, z < 10 → coSl.getD z 0 ∈ coSl) z (by assumption))
  · rfl
theorem coX_4 {X : Nat → Int → Int} {i : Nat} {v : Int} : coX (zU X (i + 47) 4 v) i = cU (coX X i) 0 v := coX_U 0 (by decide) v
theorem coX_5 {X : Nat → Int → Int} {i : Nat} {v : Int} : coX (zU X (i + 47) 5 v) i = cU (coX X i) 1 v := coX_U 1 (by decide) v
theorem coX_6 {X : Nat → Int → Int} {i : Nat} {v : Int} : coX (zU X (i + 47) 6 v) i = cU (coX X i) 2 v := coX_U 2 (by decide) v
theorem coX_7 {X : Nat → Int → Int} {i : Nat} {v : Int} : coX (zU X (i + 47) 7 v) i = cU (coX X i) 3 v := coX_U 3 (by decide) v
theorem coX_2 {X : Nat → Int → Int} {i : Nat} {v : Int} : coX (zU X (i + 47) 2 v) i = cU (coX X i) 4 v := coX_U 4 (by decide) v
theorem coX_8 {X : Nat → Int → Int} {i : Nat} {v : Int} : coX (zU X (i + 47) 8 v) i = cU (coX X i) 5 v := coX_U 5 (by decide) v
theorem coX_10 {X : Nat → Int → Int} {i : Nat} {v : Int} : coX (zU X (i + 47) 10 v) i = cU (coX X i) 6 v := coX_U 6 (by decide) v
theorem coX_11 {X : Nat → Int → Int} {i : Nat} {v : Int} : coX (zU X (i + 47) 11 v) i = cU (coX X i) 7 v := coX_U 7 (by decide) v
theorem coX_12 {X : Nat → Int → Int} {i : Nat} {v : Int} : coX (zU X (i + 47) 12 v) i = cU (coX X i) 8 v := coX_U 8 (by decide) v
theorem coX_13 {X : Nat → Int → Int} {i : Nat} {v : Int} : coX (zU X (i + 47) 13 v) i = cU (coX X i) 9 v := coX_U 9 (by decide) v
def htF (P : Nat → Nat) (h : Int) (k : Nat) : Bool := decide (k = 0) || decide (zAnd (wyP P k) (zXor h (-1)) = 0)
abbrev cX2_begin : ByteArray := prog_4_method_2_code
def yX2_begin : MethodName := ⟨RX2, "begin", "(II)V"⟩
theorem dX2_begin_0 : decode cX2_begin 0 = .ok (.aload_n 0, 1) := by decide +kernel
theorem dX2_begin_1 : decode cX2_begin 1 = .ok (.iload_n 1, 1) := by decide +kernel
theorem dX2_begin_2 : decode cX2_begin 2 = .ok (.putfield 19, 3) := by decide +kernel
theorem dX2_begin_5 : decode cX2_begin 5 = .ok (.aload_n 0, 1) := by decide +kernel
theorem dX2_begin_6 : decode cX2_begin 6 = .ok (.iload_n 2, 1) := by decide +kernel
theorem dX2_begin_7 : decode cX2_begin 7 = .ok (.putfield 23, 3) := by decide +kernel
theorem dX2_begin_10 : decode cX2_begin 10 = .ok (.aload_n 0, 1) := by decide +kernel
theorem dX2_begin_11 : decode cX2_begin 11 = .ok (.iconst 1, 1) := by decide +kernel
theorem dX2_begin_12 : decode cX2_begin 12 = .ok (.putfield 26, 3) := by decide +kernel
theorem dX2_begin_15 : decode cX2_begin 15 = .ok (.aload_n 0, 1) := by decide +kernel
theorem dX2_begin_16 : decode cX2_begin 16 = .ok (.iconst 1, 1) := by decide +kernel
theorem dX2_begin_17 : decode cX2_begin 17 = .ok (.putfield 29, 3) := by decide +kernel
theorem dX2_begin_20 : decode cX2_begin 20 = .ok (.aload_n 0, 1) := by decide +kernel
theorem dX2_begin_21 : decode cX2_begin 21 = .ok (.iconst 1, 1) := by decide +kernel
theorem dX2_begin_22 : decode cX2_begin 22 = .ok (.putfield 32, 3) := by decide +kernel
theorem dX2_begin_25 : decode cX2_begin 25 = .ok (.aload_n 0, 1) := by decide +kernel
theorem dX2_begin_26 : decode cX2_begin 26 = .ok (.iconst 1, 1) := by decide +kernel
theorem dX2_begin_27 : decode cX2_begin 27 = .ok (.putfield 35, 3) := by decide +kernel
theorem dX2_begin_30 : decode cX2_begin 30 = .ok (.aload_n 0, 1) := by decide +kernel
theorem dX2_begin_31 : decode cX2_begin 31 = .ok (.getfield 9, 3) := by decide +kernel
theorem dX2_begin_34 : decode cX2_begin 34 = .ok (.iconst 0, 1) := by decide +kernel
theorem dX2_begin_35 : decode cX2_begin 35 = .ok (.iconst 0, 1) := by decide +kernel
theorem dX2_begin_36 : decode cX2_begin 36 = .ok (.iastore, 1) := by decide +kernel
theorem dX2_begin_37 : decode cX2_begin 37 = .ok (.aload_n 0, 1) := by decide +kernel
theorem dX2_begin_38 : decode cX2_begin 38 = .ok (.iconst 0, 1) := by decide +kernel
theorem dX2_begin_39 : decode cX2_begin 39 = .ok (.putfield 38, 3) := by decide +kernel
theorem dX2_begin_42 : decode cX2_begin 42 = .ok (.aload_n 0, 1) := by decide +kernel
theorem dX2_begin_43 : decode cX2_begin 43 = .ok (.iconst 0, 1) := by decide +kernel
theorem dX2_begin_44 : decode cX2_begin 44 = .ok (.putfield 41, 3) := by decide +kernel
theorem dX2_begin_47 : decode cX2_begin 47 = .ok (.aload_n 0, 1) := by decide +kernel
theorem dX2_begin_48 : decode cX2_begin 48 = .ok (.iconst 0, 1) := by decide +kernel
theorem dX2_begin_49 : decode cX2_begin 49 = .ok (.putfield 44, 3) := by decide +kernel
theorem dX2_begin_52 : decode cX2_begin 52 = .ok (.aload_n 0, 1) := by decide +kernel
theorem dX2_begin_53 : decode cX2_begin 53 = .ok (.iconst 0, 1) := by decide +kernel
theorem dX2_begin_54 : decode cX2_begin 54 = .ok (.putfield 47, 3) := by decide +kernel
theorem dX2_begin_57 : decode cX2_begin 57 = .ok (.aload_n 0, 1) := by decide +kernel
theorem dX2_begin_58 : decode cX2_begin 58 = .ok (.iconst 0, 1) := by decide +kernel
theorem dX2_begin_59 : decode cX2_begin 59 = .ok (.putfield 50, 3) := by decide +kernel
theorem dX2_begin_62 : decode cX2_begin 62 = .ok (.aload_n 0, 1) := by decide +kernel
theorem dX2_begin_63 : decode cX2_begin 63 = .ok (.iconst 0, 1) := by decide +kernel
theorem dX2_begin_64 : decode cX2_begin 64 = .ok (.putfield 53, 3) := by decide +kernel
theorem dX2_begin_67 : decode cX2_begin 67 = .ok (.aload_n 0, 1) := by decide +kernel
theorem dX2_begin_68 : decode cX2_begin 68 = .ok (.iconst (-1), 1) := by decide +kernel
theorem dX2_begin_69 : decode cX2_begin 69 = .ok (.putfield 56, 3) := by decide +kernel
theorem dX2_begin_72 : decode cX2_begin 72 = .ok (.return_, 1) := by decide +kernel
theorem q_452 : Cond.fieldLink RX2 19 RX2 "rule" "I" ∈ zTB := zmem 452 (by decide +kernel) rfl
theorem q_449 : Cond.fieldLink RX2 23 RX2 "tie" "I" ∈ zTB := zmem 449 (by decide +kernel) rfl
theorem q_454 : Cond.fieldLink RX2 26 RX2 "heads" "I" ∈ zTB := zmem 454 (by decide +kernel) rfl
theorem q_456 : Cond.fieldLink RX2 29 RX2 "bodies" "I" ∈ zTB := zmem 456 (by decide +kernel) rfl
theorem q_458 : Cond.fieldLink RX2 32 RX2 "whole" "I" ∈ zTB := zmem 458 (by decide +kernel) rfl
theorem q_450 : Cond.fieldLink RX2 35 RX2 "wholes" "I" ∈ zTB := zmem 450 (by decide +kernel) rfl
theorem q_451 : Cond.fieldLink RX2 9 RX2 "rank" "[I" ∈ zTB := zmem 451 (by decide +kernel) rfl
theorem q_460 : Cond.fieldLink RX2 38 RX2 "tip" "I" ∈ zTB := zmem 460 (by decide +kernel) rfl
theorem q_463 : Cond.fieldLink RX2 41 RX2 "deeds" "I" ∈ zTB := zmem 463 (by decide +kernel) rfl
theorem q_465 : Cond.fieldLink RX2 44 RX2 "undone" "I" ∈ zTB := zmem 465 (by decide +kernel) rfl
theorem q_467 : Cond.fieldLink RX2 47 RX2 "done" "I" ∈ zTB := zmem 467 (by decide +kernel) rfl
theorem q_469 : Cond.fieldLink RX2 50 RX2 "switches" "I" ∈ zTB := zmem 469 (by decide +kernel) rfl
theorem q_471 : Cond.fieldLink RX2 53 RX2 "longest" "I" ∈ zTB := zmem 471 (by decide +kernel) rfl
theorem q_473 : Cond.fieldLink RX2 56 RX2 "first" "I" ∈ zTB := zmem 473 (by decide +kernel) rfl
def F_X2_begin (i : Nat) (X Y : Nat → Int → Int) (R : Nat → Int → Option Nat) (a : Int) (b : Int) : Prop := (∀ i j, rI (X i j)) → (∀ i j, rL (Y i j)) → ∀ X1 : Nat → Int → Int, X1 = zU X (i + 47) 4 (a) → (∀ i j, rI (X1 i j)) → (∀ X2 : Nat → Int → Int, X2 = zU X1 (i + 47) 1 (b) → (∀ i j, rI (X2 i j)) → (∀ X3 : Nat → Int → Int, X3 = zU X2 (i + 47) 5 (1) → (∀ i j, rI (X3 i j)) → (∀ X4 : Nat → Int → Int, X4 = zU X3 (i + 47) 6 (1) → (∀ i j, rI (X4 i j)) → (∀ X5 : Nat → Int → Int, X5 = zU X4 (i + 47) 7 (1) → (∀ i j, rI (X5 i j)) → (∀ X6 : Nat → Int → Int, X6 = zU X5 (i + 47) 2 (1) → (∀ i j, rI (X6 i j)) → (∀ X7 : Nat → Int → Int, X7 = zU X6 (i + 48) (0) (0) → (∀ i j, rI (X7 i j)) → (∀ X8 : Nat → Int → Int, X8 = zU X7 (i + 47) 8 (0) → (∀ i j, rI (X8 i j)) → (∀ X9 : Nat → Int → Int, X9 = zU X8 (i + 47) 9 (0) → (∀ i j, rI (X9 i j)) → (∀ X10 : Nat → Int → Int, X10 = zU X9 (i + 47) 10 (0) → (∀ i j, rI (X10 i j)) → (∀ X11 : Nat → Int → Int, X11 = zU X10 (i + 47) 11 (0) → (∀ i j, rI (X11 i j)) → (∀ X12 : Nat → Int → Int, X12 = zU X11 (i + 47) 12 (0) → (∀ i j, rI (X12 i j)) → (∀ X13 : Nat → Int → Int, X13 = zU X12 (i + 47) 13 (0) → (∀ i j, rI (X13 i j)) → (∀ X14 : Nat → Int → Int, X14 = zU X13 (i + 47) 14 ((-1)) → (∀ i j, rI (X14 i j)) → (coX (X14) i = (csI (a)).1 ∧ ((X14) (i + 48) 0 = 0 ∧ (X14) (i + 47) 1 = b ∧ (X14) (i + 47) 9 = 0 ∧ (X14) (i + 47) 14 = -1) ∧ ∀ z, z ≠ i + 47 → z ≠ i + 48 → (X14) z = X z))))))))))))))
set_option maxHeartbeats 4000000 in
set_option maxRecDepth 100000 in
theorem w_X2_begin {l : Launch} {D : va_G} {cy : Nat → ClassId} {bs N : Nat} {sa : Nat → Nat} {kd len : Nat → Nat} {X Y : Nat → Int → Int} {R : Nat → Int → Option Nat} {i : Nat} (hC : zCourse N kd len R i) (a : Int) (ha : rI a) (b : Int) (hb : rI b) (hF : F_X2_begin i X Y R a b) : Met l yX2_begin (.code yX2_begin cX2_begin 3 none :: zTB) (zRm 0 0) (zPc D cy bs sa N kd len X Y R [.ref (bs + (i + 47)), .int (zI (a)), .int (zI (b))]) (zQv D cy bs N kd len (fun st => st.2.1 = Y ∧ st.2.2 = R ∧ (coX (st.1) i = (csI (a)).1 ∧ ((st.1) (i + 48) 0 = 0 ∧ (st.1) (i + 47) 1 = b ∧ (st.1) (i + 47) 9 = 0 ∧ (st.1) (i + 47) 14 = -1) ∧ ∀ z, z ≠ i + 47 → z ≠ i + 48 → (st.1) z = X z))) 0 0 (zA bs) := by
  refine zstart (by decide) (Nat.le_of_ble_eq_true rfl) ?_
  intro p e s m args below meth c ls C hE hH hr hlk hnm hl hargs
  have hF := hF hH.2.2.1 hH.2.2.2
  have hS : va_S (zA bs) s.heap s.heap [] := va_S.rf
  have hl : lv_has ls 3 [(0, .ref (bs + (i + 47))), (1, .int (zI (a))), (2, .int (zI (b)))] := hl
  refine lv_aload_n C.1 C.2.1 dX2_begin_0 rfl (lv_at hl 0 rfl) ?_
  refine lv_iload_n C.1 C.2.1 dX2_begin_1 rfl (lv_at hl 1 rfl) ?_
  refine zp2_4 C hH hS (zCo_n hC) (zCo_k hC) q_452 ha dX2_begin_2 (fun H locs hH hS => ?_)
  obtain ⟨X1, eX1⟩ : ∃ z, z = zU X (i + 47) 4 (a) := ⟨_, rfl⟩
  rw [← eX1] at hH
  have hF := hF X1 eX1 hH.2.2.1
  refine lv_aload_n C.1 C.2.1 dX2_begin_5 rfl (lv_at hl 0 rfl) ?_
  refine lv_iload_n C.1 C.2.1 dX2_begin_6 rfl (lv_at hl 2 rfl) ?_
  refine zp2_1 C hH hS (zCo_n hC) (zCo_k hC) q_449 hb dX2_begin_7 (fun H locs hH hS => ?_)
  obtain ⟨X2, eX2⟩ : ∃ z, z = zU X1 (i + 47) 1 (b) := ⟨_, rfl⟩
  rw [← eX2] at hH
  have hF := hF X2 eX2 hH.2.2.1
  refine lv_aload_n C.1 C.2.1 dX2_begin_10 rfl (lv_at hl 0 rfl) ?_
  refine zd_iconst C dX2_begin_11 ?_
  refine zp2_5 C hH hS (zCo_n hC) (zCo_k hC) q_454 (by decide) dX2_begin_12 (fun H locs hH hS => ?_)
  obtain ⟨X3, eX3⟩ : ∃ z, z = zU X2 (i + 47) 5 (1) := ⟨_, rfl⟩
  rw [← eX3] at hH
  have hF := hF X3 eX3 hH.2.2.1
  refine lv_aload_n C.1 C.2.1 dX2_begin_15 rfl (lv_at hl 0 rfl) ?_
  refine zd_iconst C dX2_begin_16 ?_
  refine zp2_6 C hH hS (zCo_n hC) (zCo_k hC) q_456 (by decide) dX2_begin_17 (fun H locs hH hS => ?_)
  obtain ⟨X4, eX4⟩ : ∃ z, z = zU X3 (i + 47) 6 (1) := ⟨_, rfl⟩
  rw [← eX4] at hH
  have hF := hF X4 eX4 hH.2.2.1
  refine lv_aload_n C.1 C.2.1 dX2_begin_20 rfl (lv_at hl 0 rfl) ?_
  refine zd_iconst C dX2_begin_21 ?_
  refine zp2_7 C hH hS (zCo_n hC) (zCo_k hC) q_458 (by decide) dX2_begin_22 (fun H locs hH hS => ?_)
  obtain ⟨X5, eX5⟩ : ∃ z, z = zU X4 (i + 47) 7 (1) := ⟨_, rfl⟩
  rw [← eX5] at hH
  have hF := hF X5 eX5 hH.2.2.1
  refine lv_aload_n C.1 C.2.1 dX2_begin_25 rfl (lv_at hl 0 rfl) ?_
  refine zd_iconst C dX2_begin_26 ?_
  refine zp2_2 C hH hS (zCo_n hC) (zCo_k hC) q_450 (by decide) dX2_begin_27 (fun H locs hH hS => ?_)
  obtain ⟨X6, eX6⟩ : ∃ z, z = zU X5 (i + 47) 2 (1) := ⟨_, rfl⟩
  rw [← eX6] at hH
  have hF := hF X6 eX6 hH.2.2.1
  refine lv_aload_n C.1 C.2.1 dX2_begin_30 rfl (lv_at hl 0 rfl) ?_
  refine zg2_3 C hH (zCo_n hC) (zCo_k hC) q_451 (zCo_r3 hC) dX2_begin_31 ?_
  refine zd_iconst C dX2_begin_34 ?_
  refine zd_iconst C dX2_begin_35 ?_
  refine zd_iast C hH hS (zCo_n8 hC) (zCo_k8 hC) (by decide) (by rw [zCo_l8 hC]; decide) (by rw [zCo_l8 hC]; decide) (by decide) dX2_begin_36 (fun H locs hH hS => ?_)
  obtain ⟨X7, eX7⟩ : ∃ z, z = zU X6 (i + 48) (0) (0) := ⟨_, rfl⟩
  rw [← eX7] at hH
  have hF := hF X7 eX7 hH.2.2.1
  refine lv_aload_n C.1 C.2.1 dX2_begin_37 rfl (lv_at hl 0 rfl) ?_
  refine zd_iconst C dX2_begin_38 ?_
  refine zp2_8 C hH hS (zCo_n hC) (zCo_k hC) q_460 (by decide) dX2_begin_39 (fun H locs hH hS => ?_)
  obtain ⟨X8, eX8⟩ : ∃ z, z = zU X7 (i + 47) 8 (0) := ⟨_, rfl⟩
  rw [← eX8] at hH
  have hF := hF X8 eX8 hH.2.2.1
  refine lv_aload_n C.1 C.2.1 dX2_begin_42 rfl (lv_at hl 0 rfl) ?_
  refine zd_iconst C dX2_begin_43 ?_
  refine zp2_9 C hH hS (zCo_n hC) (zCo_k hC) q_463 (by decide) dX2_begin_44 (fun H locs hH hS => ?_)
  obtain ⟨X9, eX9⟩ : ∃ z, z = zU X8 (i + 47) 9 (0) := ⟨_, rfl⟩
  rw [← eX9] at hH
  have hF := hF X9 eX9 hH.2.2.1
  refine lv_aload_n C.1 C.2.1 dX2_begin_47 rfl (lv_at hl 0 rfl) ?_
  refine zd_iconst C dX2_begin_48 ?_
  refine zp2_10 C hH hS (zCo_n hC) (zCo_k hC) q_465 (by decide) dX2_begin_49 (fun H locs hH hS => ?_)
  obtain ⟨X10, eX10⟩ : ∃ z, z = zU X9 (i + 47) 10 (0) := ⟨_, rfl⟩
  rw [← eX10] at hH
  have hF := hF X10 eX10 hH.2.2.1
  refine lv_aload_n C.1 C.2.1 dX2_begin_52 rfl (lv_at hl 0 rfl) ?_
  refine zd_iconst C dX2_begin_53 ?_
  refine zp2_11 C hH hS (zCo_n hC) (zCo_k hC) q_467 (by decide) dX2_begin_54 (fun H locs hH hS => ?_)
  obtain ⟨X11, eX11⟩ : ∃ z, z = zU X10 (i + 47) 11 (0) := ⟨_, rfl⟩
  rw [← eX11] at hH
  have hF := hF X11 eX11 hH.2.2.1
  refine lv_aload_n C.1 C.2.1 dX2_begin_57 rfl (lv_at hl 0 rfl) ?_
  refine zd_iconst C dX2_begin_58 ?_
  refine zp2_12 C hH hS (zCo_n hC) (zCo_k hC) q_469 (by decide) dX2_begin_59 (fun H locs hH hS => ?_)
  obtain ⟨X12, eX12⟩ : ∃ z, z = zU X11 (i + 47) 12 (0) := ⟨_, rfl⟩
  rw [← eX12] at hH
  have hF := hF X12 eX12 hH.2.2.1
  refine lv_aload_n C.1 C.2.1 dX2_begin_62 rfl (lv_at hl 0 rfl) ?_
  refine zd_iconst C dX2_begin_63 ?_
  refine zp2_13 C hH hS (zCo_n hC) (zCo_k hC) q_471 (by decide) dX2_begin_64 (fun H locs hH hS => ?_)
  obtain ⟨X13, eX13⟩ : ∃ z, z = zU X12 (i + 47) 13 (0) := ⟨_, rfl⟩
  rw [← eX13] at hH
  have hF := hF X13 eX13 hH.2.2.1
  refine lv_aload_n C.1 C.2.1 dX2_begin_67 rfl (lv_at hl 0 rfl) ?_
  refine zd_iconst C dX2_begin_68 ?_
  refine zp2_14 C hH hS (zCo_n hC) (zCo_k hC) q_473 (by decide) dX2_begin_69 (fun H locs hH hS => ?_)
  obtain ⟨X14, eX14⟩ : ∃ z, z = zU X13 (i + 47) 14 ((-1)) := ⟨_, rfl⟩
  rw [← eX14] at hH
  have hF := hF X14 eX14 hH.2.2.1
  exact zd_vret C hr hlk hH hS (⟨rfl, rfl, hF⟩) dX2_begin_72
theorem v_X2_begin {X Y : Nat → Int → Int} {R : Nat → Int → Option Nat} {i : Nat} (a : Int) (ha : rI a) (b : Int) (hb : rI b) : F_X2_begin i X Y R a b := by
  unfold F_X2_begin
  intro hX hY
  intro X1
  intro eX1
  intro rX1
  intro X2
  intro eX2
  intro rX2
  intro X3
  intro eX3
  intro rX3
  intro X4
  intro eX4
  intro rX4
  intro X5
  intro eX5
  intro rX5
  intro X6
  intro eX6
  intro rX6
  intro X7
  intro eX7
  intro rX7
  intro X8
  intro eX8
  intro rX8
  intro X9
  intro eX9
  intro rX9
  intro X10
  intro eX10
  intro rX10
  intro X11
  intro eX11
  intro rX11
  intro X12
  intro eX12
  intro rX12
  intro X13
  intro eX13
  intro rX13
  intro X14
  intro eX14
  intro rX14
  have o : ∀ z, z ≠ i + 47 → z ≠ i + 48 → X14 z = X z := fun z a b => by rw [eX14, eX13, eX12, eX11, eX10, eX9, eX8, eX7, eX6, eX5, eX4, eX3, eX2, eX1]; simp only [zU_o a, zU_o b]
  refine ⟨funext fun s => ?_, ⟨?_, ?_, ?_, ?_⟩, o⟩
  · match s with
    | 0 => show X14 (i + 47) 4 = a; rw [eX14, eX13, eX12, eX11, eX10, eX9, eX8, eX7, eX6, eX5, eX4, eX3, eX2, eX1]; simp [zU]
    | 1 => show X14 (i + 47) 5 = 1; rw [eX14, eX13, eX12, eX11, eX10, eX9, eX8, eX7, eX6, eX5, eX4, eX3, eX2, eX1]; simp [zU]
    | 2 => show X14 (i + 47) 6 = 1; rw [eX14, eX13, eX12, eX11, eX10, eX9, eX8, eX7, eX6, eX5, eX4, eX3, eX2, eX1]; simp [zU]
    | 3 => show X14 (i + 47) 7 = 1; rw [eX14, eX13, eX12, eX11, eX10, eX9, eX8, eX7, eX6, eX5, eX4, eX3, eX2, eX1]; simp [zU]
    | 4 => show X14 (i + 47) 2 = 1; rw [eX14, eX13, eX12, eX11, eX10, eX9, eX8, eX7, eX6, eX5, eX4, eX3, eX2, eX1]; simp [zU]
    | 5 => show X14 (i + 47) 8 = 0; rw [eX14, eX13, eX12, eX11, eX10, eX9, eX8, eX7, eX6, eX5, eX4, eX3, eX2, eX1]; simp [zU]
    | 6 => show X14 (i + 47) 10 = 0; rw [eX14, eX13, eX12, eX11, eX10, eX9, eX8, eX7, eX6, eX5, eX4, eX3, eX2, eX1]; simp [zU]
    | 7 => show X14 (i + 47) 11 = 0; rw [eX14, eX13, eX12, eX11, eX10, eX9, eX8, eX7, eX6, eX5, eX4, eX3, eX2, eX1]; simp [zU]
    | 8 => show X14 (i + 47) 12 = 0; rw [eX14, eX13, eX12, eX11, eX10, eX9, eX8, eX7, eX6, eX5, eX4, eX3, eX2, eX1]; simp [zU]
    | 9 => show X14 (i + 47) 13 = 0; rw [eX14, eX13, eX12, eX11, eX10, eX9, eX8, eX7, eX6, eX5, eX4, eX3, eX2, eX1]; simp [zU]
    | k + 10 => rfl
  · rw [eX14, eX13, eX12, eX11, eX10, eX9, eX8, eX7, eX6, eX5, eX4, eX3, eX2, eX1]; simp [zU]
  · rw [eX14, eX13, eX12, eX11, eX10, eX9, eX8, eX7, eX6, eX5, eX4, eX3, eX2, eX1]; simp [zU]
  · rw [eX14, eX13, eX12, eX11, eX10, eX9, eX8, eX7, eX6, eX5, eX4, eX3, eX2, eX1]; simp [zU]
  · rw [eX14, eX13, eX12, eX11, eX10, eX9, eX8, eX7, eX6, eX5, eX4, eX3, eX2, eX1]; simp [zU]
theorem c_X2_begin {l : Launch} {D : va_G} {cy : Nat → ClassId} {bs N : Nat} {sa : Nat → Nat} {kd len : Nat → Nat} {X Y : Nat → Int → Int} {R : Nat → Int → Option Nat} {i : Nat} (hC : zCourse N kd len R i) (a : Int) (ha : rI a) (b : Int) (hb : rI b) : Met l yX2_begin (.code yX2_begin cX2_begin 3 none :: zTB) (zRm 0 0) (zPc D cy bs sa N kd len X Y R [.ref (bs + (i + 47)), .int (zI (a)), .int (zI (b))]) (zQv D cy bs N kd len (fun st => st.2.1 = Y ∧ st.2.2 = R ∧ (coX (st.1) i = (csI (a)).1 ∧ ((st.1) (i + 48) 0 = 0 ∧ (st.1) (i + 47) 1 = b ∧ (st.1) (i + 47) 9 = 0 ∧ (st.1) (i + 47) 14 = -1) ∧ ∀ z, z ≠ i + 47 → z ≠ i + 48 → (st.1) z = X z))) 0 0 (zA bs) := w_X2_begin hC a ha b hb (v_X2_begin a ha b hb)
abbrev cX2_may : ByteArray := prog_4_method_5_code
def yX2_may : MethodName := ⟨RX2, "may", "(II)Z"⟩
theorem dX2_may_0 : decode cX2_may 0 = .ok (.iload_n 1, 1) := by decide +kernel
theorem dX2_may_1 : decode cX2_may 1 = .ok (.iconst 3, 1) := by decide +kernel
theorem dX2_may_2 : decode cX2_may 2 = .ok (.if_icmp .ne 26, 3) := by decide +kernel
theorem dX2_may_5 : decode cX2_may 5 = .ok (.iload_n 2, 1) := by decide +kernel
theorem dX2_may_6 : decode cX2_may 6 = .ok (.aload_n 0, 1) := by decide +kernel
theorem dX2_may_7 : decode cX2_may 7 = .ok (.getfield 19, 3) := by decide +kernel
theorem dX2_may_10 : decode cX2_may 10 = .ok (.if_icmp .eq 16, 3) := by decide +kernel
theorem dX2_may_13 : decode cX2_may 13 = .ok (.iload_n 2, 1) := by decide +kernel
theorem dX2_may_14 : decode cX2_may 14 = .ok (.ifCond .eq 8, 3) := by decide +kernel
theorem dX2_may_17 : decode cX2_may 17 = .ok (.iload_n 2, 1) := by decide +kernel
theorem dX2_may_18 : decode cX2_may 18 = .ok (.iconst 1, 1) := by decide +kernel
theorem dX2_may_19 : decode cX2_may 19 = .ok (.if_icmp .ne 7, 3) := by decide +kernel
theorem dX2_may_22 : decode cX2_may 22 = .ok (.iconst 1, 1) := by decide +kernel
theorem dX2_may_23 : decode cX2_may 23 = .ok (.goto 4, 3) := by decide +kernel
theorem dX2_may_26 : decode cX2_may 26 = .ok (.iconst 0, 1) := by decide +kernel
theorem dX2_may_27 : decode cX2_may 27 = .ok (.ireturn, 1) := by decide +kernel
theorem dX2_may_28 : decode cX2_may 28 = .ok (.iload_n 2, 1) := by decide +kernel
theorem dX2_may_29 : decode cX2_may 29 = .ok (.iconst 1, 1) := by decide +kernel
theorem dX2_may_30 : decode cX2_may 30 = .ok (.if_icmp .lt 14, 3) := by decide +kernel
theorem dX2_may_33 : decode cX2_may 33 = .ok (.iload_n 2, 1) := by decide +kernel
theorem dX2_may_34 : decode cX2_may 34 = .ok (.aload_n 0, 1) := by decide +kernel
theorem dX2_may_35 : decode cX2_may 35 = .ok (.getfield 15, 3) := by decide +kernel
theorem dX2_may_38 : decode cX2_may 38 = .ok (.getfield 91, 3) := by decide +kernel
theorem dX2_may_41 : decode cX2_may 41 = .ok (.if_icmp .le 5, 3) := by decide +kernel
theorem dX2_may_44 : decode cX2_may 44 = .ok (.iconst 0, 1) := by decide +kernel
theorem dX2_may_45 : decode cX2_may 45 = .ok (.ireturn, 1) := by decide +kernel
theorem dX2_may_46 : decode cX2_may 46 = .ok (.iload_n 1, 1) := by decide +kernel
theorem dX2_may_47 : decode cX2_may 47 = .ok (.ifCond .ne 20, 3) := by decide +kernel
theorem dX2_may_50 : decode cX2_may 50 = .ok (.aload_n 0, 1) := by decide +kernel
theorem dX2_may_51 : decode cX2_may 51 = .ok (.getfield 26, 3) := by decide +kernel
theorem dX2_may_54 : decode cX2_may 54 = .ok (.iload_n 2, 1) := by decide +kernel
theorem dX2_may_55 : decode cX2_may 55 = .ok (.invokestatic 94, 3) := by decide +kernel
theorem dX2_may_58 : decode cX2_may 58 = .ok (.ifCond .ne 7, 3) := by decide +kernel
theorem dX2_may_61 : decode cX2_may 61 = .ok (.iconst 1, 1) := by decide +kernel
theorem dX2_may_62 : decode cX2_may 62 = .ok (.goto 4, 3) := by decide +kernel
theorem dX2_may_65 : decode cX2_may 65 = .ok (.iconst 0, 1) := by decide +kernel
theorem dX2_may_66 : decode cX2_may 66 = .ok (.ireturn, 1) := by decide +kernel
theorem dX2_may_67 : decode cX2_may 67 = .ok (.iload_n 1, 1) := by decide +kernel
theorem dX2_may_68 : decode cX2_may 68 = .ok (.iconst 1, 1) := by decide +kernel
theorem dX2_may_69 : decode cX2_may 69 = .ok (.if_icmp .ne 20, 3) := by decide +kernel
theorem dX2_may_72 : decode cX2_may 72 = .ok (.aload_n 0, 1) := by decide +kernel
theorem dX2_may_73 : decode cX2_may 73 = .ok (.getfield 29, 3) := by decide +kernel
theorem dX2_may_76 : decode cX2_may 76 = .ok (.iload_n 2, 1) := by decide +kernel
theorem dX2_may_77 : decode cX2_may 77 = .ok (.invokestatic 94, 3) := by decide +kernel
theorem dX2_may_80 : decode cX2_may 80 = .ok (.ifCond .ne 7, 3) := by decide +kernel
theorem dX2_may_83 : decode cX2_may 83 = .ok (.iconst 1, 1) := by decide +kernel
theorem dX2_may_84 : decode cX2_may 84 = .ok (.goto 4, 3) := by decide +kernel
theorem dX2_may_87 : decode cX2_may 87 = .ok (.iconst 0, 1) := by decide +kernel
theorem dX2_may_88 : decode cX2_may 88 = .ok (.ireturn, 1) := by decide +kernel
theorem dX2_may_89 : decode cX2_may 89 = .ok (.iload_n 1, 1) := by decide +kernel
theorem dX2_may_90 : decode cX2_may 90 = .ok (.iconst 2, 1) := by decide +kernel
theorem dX2_may_91 : decode cX2_may 91 = .ok (.if_icmp .ne 30, 3) := by decide +kernel
theorem dX2_may_94 : decode cX2_may 94 = .ok (.aload_n 0, 1) := by decide +kernel
theorem dX2_may_95 : decode cX2_may 95 = .ok (.getfield 26, 3) := by decide +kernel
theorem dX2_may_98 : decode cX2_may 98 = .ok (.aload_n 0, 1) := by decide +kernel
theorem dX2_may_99 : decode cX2_may 99 = .ok (.getfield 29, 3) := by decide +kernel
theorem dX2_may_102 : decode cX2_may 102 = .ok (.ior, 1) := by decide +kernel
theorem dX2_may_103 : decode cX2_may 103 = .ok (.aload_n 0, 1) := by decide +kernel
theorem dX2_may_104 : decode cX2_may 104 = .ok (.getfield 32, 3) := by decide +kernel
theorem dX2_may_107 : decode cX2_may 107 = .ok (.iconst (-1), 1) := by decide +kernel
theorem dX2_may_108 : decode cX2_may 108 = .ok (.ixor, 1) := by decide +kernel
theorem dX2_may_109 : decode cX2_may 109 = .ok (.iand, 1) := by decide +kernel
theorem dX2_may_110 : decode cX2_may 110 = .ok (.iload_n 2, 1) := by decide +kernel
theorem dX2_may_111 : decode cX2_may 111 = .ok (.invokestatic 94, 3) := by decide +kernel
theorem dX2_may_114 : decode cX2_may 114 = .ok (.ifCond .eq 7, 3) := by decide +kernel
theorem dX2_may_117 : decode cX2_may 117 = .ok (.iconst 1, 1) := by decide +kernel
theorem dX2_may_118 : decode cX2_may 118 = .ok (.goto 4, 3) := by decide +kernel
theorem dX2_may_121 : decode cX2_may 121 = .ok (.iconst 0, 1) := by decide +kernel
theorem dX2_may_122 : decode cX2_may 122 = .ok (.ireturn, 1) := by decide +kernel
theorem q_448 : Cond.fieldLink RX2 15 RX2 "chart" "LWorkChains$Chart;" ∈ zTB := zmem 448 (by decide +kernel) rfl
theorem q_397 : Cond.fieldLink RX2 91 RX1 "last" "I" ∈ zTB := zmem 397 (by decide +kernel) rfl
theorem k_RX2_94 : zLsN RX2 94 yX10_isIn "WorkChains" cX10_isIn 2 (some .boolean) 2 := ⟨⟨by decide +kernel, q_936, q_129, q_937⟩, ⟨by decide, by decide⟩, by decide +kernel⟩
def F_X2_may (i : Nat) (Z : Nat → Int → Int) (q : Nat) (X Y : Nat → Int → Int) (R : Nat → Int → Option Nat) (a : Int) (b : Int) : Prop := (∀ i j, rI (X i j)) → (∀ i j, rL (Y i j)) → ((¬ a = 3) → (((b < 1) → (0 = bz (csOk (Z q 27).toNat (coX X i) (a) (b)))) ∧ ((¬ (b < 1)) → (((b ≤ (X (i) 2)) → (((¬ a = 0) → (((¬ a = 1) → (((¬ a = 2) → (0 = bz (csOk (Z q 27).toNat (coX X i) (a) (b)))) ∧ ((¬ (¬ a = 2)) → ((((decide (0 ≤ b ∧ b < 15) && decide (¬ zAnd (zShr (zAnd (zOr (X (i + 47) 5) (X (i + 47) 6)) (zXor (X (i + 47) 7) ((-1)))) (b)) 1 = 0)) = false) → (0 = bz (csOk (Z q 27).toNat (coX X i) (a) (b)))) ∧ (((decide (0 ≤ b ∧ b < 15) && decide (¬ zAnd (zShr (zAnd (zOr (X (i + 47) 5) (X (i + 47) 6)) (zXor (X (i + 47) 7) ((-1)))) (b)) 1 = 0)) = true) → (1 = bz (csOk (Z q 27).toNat (coX X i) (a) (b)))))))) ∧ ((¬ (¬ a = 1)) → ((((decide (0 ≤ b ∧ b < 15) && decide (¬ zAnd (zShr (X (i + 47) 6) (b)) 1 = 0)) = true) → (0 = bz (csOk (Z q 27).toNat (coX X i) (a) (b)))) ∧ (((decide (0 ≤ b ∧ b < 15) && decide (¬ zAnd (zShr (X (i + 47) 6) (b)) 1 = 0)) = false) → (1 = bz (csOk (Z q 27).toNat (coX X i) (a) (b)))))))) ∧ ((¬ (¬ a = 0)) → ((((decide (0 ≤ b ∧ b < 15) && decide (¬ zAnd (zShr (X (i + 47) 5) (b)) 1 = 0)) = true) → (0 = bz (csOk (Z q 27).toNat (coX X i) (a) (b)))) ∧ (((decide (0 ≤ b ∧ b < 15) && decide (¬ zAnd (zShr (X (i + 47) 5) (b)) 1 = 0)) = false) → (1 = bz (csOk (Z q 27).toNat (coX X i) (a) (b)))))))) ∧ ((¬ (b ≤ (X (i) 2))) → (0 = bz (csOk (Z q 27).toNat (coX X i) (a) (b)))))))) ∧ ((¬ (¬ a = 3)) → (((b = (X (i + 47) 4)) → (0 = bz (csOk (Z q 27).toNat (coX X i) (a) (b)))) ∧ ((¬ (b = (X (i + 47) 4))) → (((b = 0) → (1 = bz (csOk (Z q 27).toNat (coX X i) (a) (b)))) ∧ ((¬ (b = 0)) → (((¬ b = 1) → (0 = bz (csOk (Z q 27).toNat (coX X i) (a) (b)))) ∧ ((¬ (¬ b = 1)) → (1 = bz (csOk (Z q 27).toNat (coX X i) (a) (b))))))))))
set_option maxHeartbeats 4000000 in
set_option maxRecDepth 100000 in
theorem w_X2_may {l : Launch} {D : va_G} {cy : Nat → ClassId} {bs N : Nat} {sa : Nat → Nat} {kd len : Nat → Nat} {X Y : Nat → Int → Int} {R : Nat → Int → Option Nat} {i : Nat} {Z : Nat → Int → Int} {q : Nat} (hC : zCourse N kd len R i) (a : Int) (ha : rI a) (b : Int) (hb : rI b) (hF : F_X2_may i Z q X Y R a b) : Met l yX2_may (.code yX2_may cX2_may 3 (some .boolean) :: zTB) (zRm 1 21) (zPc D cy bs sa N kd len X Y R [.ref (bs + (i + 47)), .int (zI (a)), .int (zI (b))]) (zQi D cy bs N kd len (fun r st => r = bz (csOk (Z q 27).toNat (coX X i) (a) (b)) ∧ st = (X, Y, R))) 0 0 (zA bs) := by
  refine zstart (by decide) (Nat.le_of_ble_eq_true rfl) ?_
  intro p e s m args below meth c ls C hE hH hr hlk hnm hl hargs
  have hF := hF hH.2.2.1 hH.2.2.2
  have hS : va_S (zA bs) s.heap s.heap [] := va_S.rf
  have hl : lv_has ls 3 [(0, .ref (bs + (i + 47))), (1, .int (zI (a))), (2, .int (zI (b)))] := hl
  refine lv_iload_n C.1 C.2.1 dX2_may_0 rfl (lv_at hl 1 rfl) ?_
  refine zd_iconst C dX2_may_1 ?_
  refine zd_icmp_ne C ha (by decide) 28 dX2_may_2 (by decide) (fun c1 => ?_) (fun c1 => ?_)
  · have hF := hF.1 c1
    refine lv_iload_n C.1 C.2.1 dX2_may_28 rfl (lv_at hl 2 rfl) ?_
    refine zd_iconst C dX2_may_29 ?_
    refine zd_icmp_lt C hb (by decide) 44 dX2_may_30 (by decide) (fun c2 => ?_) (fun c2 => ?_)
    · have hF := hF.1 c2
      refine zd_iconst C dX2_may_44 ?_
      exact zd_zret C hr hlk hH hS (by decide) (⟨hF, rfl⟩) dX2_may_45
    · have hF := hF.2 c2
      refine lv_iload_n C.1 C.2.1 dX2_may_33 rfl (lv_at hl 2 rfl) ?_
      refine lv_aload_n C.1 C.2.1 dX2_may_34 rfl (lv_at hl 0 rfl) ?_
      refine zg2_0 C hH (zCo_n hC) (zCo_k hC) q_448 (zCo_r0 hC) dX2_may_35 ?_
      refine zg1_2 C hH (zChart_n0 hC.1) (zChart_k0 hC.1) q_397 dX2_may_38 ?_
      refine zd_icmp_le C hb (hH.2.2.1 _ _) 46 dX2_may_41 (by decide) (fun c3 => ?_) (fun c3 => ?_)
      · have hF := hF.1 c3
        refine lv_iload_n C.1 C.2.1 dX2_may_46 rfl (lv_at hl 1 rfl) ?_
        refine zd_if_ne C ha 67 dX2_may_47 (by decide) (fun c4 => ?_) (fun c4 => ?_)
        · have hF := hF.1 c4
          refine lv_iload_n C.1 C.2.1 dX2_may_67 rfl (lv_at hl 1 rfl) ?_
          refine zd_iconst C dX2_may_68 ?_
          refine zd_icmp_ne C ha (by decide) 89 dX2_may_69 (by decide) (fun c5 => ?_) (fun c5 => ?_)
          · have hF := hF.1 c5
            refine lv_iload_n C.1 C.2.1 dX2_may_89 rfl (lv_at hl 1 rfl) ?_
            refine zd_iconst C dX2_may_90 ?_
            refine zd_icmp_ne C ha (by decide) 121 dX2_may_91 (by decide) (fun c6 => ?_) (fun c6 => ?_)
            · have hF := hF.1 c6
              refine zd_iconst C dX2_may_121 ?_
              exact zd_zret C hr hlk hH hS (by decide) (⟨hF, rfl⟩) dX2_may_122
            · have hF := hF.2 c6
              refine lv_aload_n C.1 C.2.1 dX2_may_94 rfl (lv_at hl 0 rfl) ?_
              refine zg2_5 C hH (zCo_n hC) (zCo_k hC) q_454 dX2_may_95 ?_
              refine lv_aload_n C.1 C.2.1 dX2_may_98 rfl (lv_at hl 0 rfl) ?_
              refine zg2_6 C hH (zCo_n hC) (zCo_k hC) q_456 dX2_may_99 ?_
              refine zd_ior C dX2_may_102 ?_
              refine lv_aload_n C.1 C.2.1 dX2_may_103 rfl (lv_at hl 0 rfl) ?_
              refine zg2_7 C hH (zCo_n hC) (zCo_k hC) q_458 dX2_may_104 ?_
              refine zd_iconst C dX2_may_107 ?_
              refine zd_ixor C dX2_may_108 ?_
              refine zd_iand C dX2_may_109 ?_
              refine lv_iload_n C.1 C.2.1 dX2_may_110 rfl (lv_at hl 2 rfl) ?_
              refine zgoi (zrunSN (As := [.int (zI (zAnd (zOr (X (i + 47) 5) (X (i + 47) 6)) (zXor (X (i + 47) 7) ((-1))))), .int (zI (b))]) (rest := []) C hE hH hS hl.1 (c_X10_isIn (l := l)  (zAnd (zOr (X (i + 47) 5) (X (i + 47) 6)) (zXor (X (i + 47) 7) ((-1)))) (zI_rg _) (b) hb) k_RX2_94 ⟨Nat.le_of_ble_eq_true rfl, Nat.le_of_ble_eq_true rfl⟩ rfl (Nat.le_of_ble_eq_true rfl) dX2_may_111 ⟨Nat.zero_le _, Nat.zero_le _⟩) hS (fun rq Xq Yq Rq H locs hrq hq hH hS => ?_)
              obtain ⟨h91, h92⟩ := hq
              have h93 : Xq = X := congrArg (fun z => z.1) h92
              have h94 : Yq = Y := congrArg (fun z => z.2.1) h92
              have h95 : Rq = R := congrArg (fun z => z.2.2) h92
              rw [h93, h94, h95] at hH
              subst h91
              refine zd_ifB_eq C 121 dX2_may_114 (by decide) (fun c7 => ?_) (fun c7 => ?_)
              · have hF := hF.1 c7
                refine zd_iconst C dX2_may_121 ?_
                exact zd_zret C hr hlk hH hS (by decide) (⟨hF, rfl⟩) dX2_may_122
              · have hF := hF.2 c7
                refine zd_iconst C dX2_may_117 ?_
                refine lv_goto (tgt := 122) C.1 C.2.1 dX2_may_118 (by decide) ?_
                exact zd_zret C hr hlk hH hS (by decide) (⟨hF, rfl⟩) dX2_may_122
          · have hF := hF.2 c5
            refine lv_aload_n C.1 C.2.1 dX2_may_72 rfl (lv_at hl 0 rfl) ?_
            refine zg2_6 C hH (zCo_n hC) (zCo_k hC) q_456 dX2_may_73 ?_
            refine lv_iload_n C.1 C.2.1 dX2_may_76 rfl (lv_at hl 2 rfl) ?_
            refine zgoi (zrunSN (As := [.int (zI (X (i + 47) 6)), .int (zI (b))]) (rest := []) C hE hH hS hl.1 (c_X10_isIn (l := l)  (X (i + 47) 6) (hH.2.2.1 _ _) (b) hb) k_RX2_94 ⟨Nat.le_of_ble_eq_true rfl, Nat.le_of_ble_eq_true rfl⟩ rfl (Nat.le_of_ble_eq_true rfl) dX2_may_77 ⟨Nat.zero_le _, Nat.zero_le _⟩) hS (fun rq Xq Yq Rq H locs hrq hq hH hS => ?_)
            obtain ⟨h91, h92⟩ := hq
            have h93 : Xq = X := congrArg (fun z => z.1) h92
            have h94 : Yq = Y := congrArg (fun z => z.2.1) h92
            have h95 : Rq = R := congrArg (fun z => z.2.2) h92
            rw [h93, h94, h95] at hH
            subst h91
            refine zd_ifB_ne C 87 dX2_may_80 (by decide) (fun c8 => ?_) (fun c8 => ?_)
            · have hF := hF.1 c8
              refine zd_iconst C dX2_may_87 ?_
              exact zd_zret C hr hlk hH hS (by decide) (⟨hF, rfl⟩) dX2_may_88
            · have hF := hF.2 c8
              refine zd_iconst C dX2_may_83 ?_
              refine lv_goto (tgt := 88) C.1 C.2.1 dX2_may_84 (by decide) ?_
              exact zd_zret C hr hlk hH hS (by decide) (⟨hF, rfl⟩) dX2_may_88
        · have hF := hF.2 c4
          refine lv_aload_n C.1 C.2.1 dX2_may_50 rfl (lv_at hl 0 rfl) ?_
          refine zg2_5 C hH (zCo_n hC) (zCo_k hC) q_454 dX2_may_51 ?_
          refine lv_iload_n C.1 C.2.1 dX2_may_54 rfl (lv_at hl 2 rfl) ?_
          refine zgoi (zrunSN (As := [.int (zI (X (i + 47) 5)), .int (zI (b))]) (rest := []) C hE hH hS hl.1 (c_X10_isIn (l := l)  (X (i + 47) 5) (hH.2.2.1 _ _) (b) hb) k_RX2_94 ⟨Nat.le_of_ble_eq_true rfl, Nat.le_of_ble_eq_true rfl⟩ rfl (Nat.le_of_ble_eq_true rfl) dX2_may_55 ⟨Nat.zero_le _, Nat.zero_le _⟩) hS (fun rq Xq Yq Rq H locs hrq hq hH hS => ?_)
          obtain ⟨h91, h92⟩ := hq
          have h93 : Xq = X := congrArg (fun z => z.1) h92
          have h94 : Yq = Y := congrArg (fun z => z.2.1) h92
          have h95 : Rq = R := congrArg (fun z => z.2.2) h92
          rw [h93, h94, h95] at hH
          subst h91
          refine zd_ifB_ne C 65 dX2_may_58 (by decide) (fun c9 => ?_) (fun c9 => ?_)
          · have hF := hF.1 c9
            refine zd_iconst C dX2_may_65 ?_
            exact zd_zret C hr hlk hH hS (by decide) (⟨hF, rfl⟩) dX2_may_66
          · have hF := hF.2 c9
            refine zd_iconst C dX2_may_61 ?_
            refine lv_goto (tgt := 66) C.1 C.2.1 dX2_may_62 (by decide) ?_
            exact zd_zret C hr hlk hH hS (by decide) (⟨hF, rfl⟩) dX2_may_66
      · have hF := hF.2 c3
        refine zd_iconst C dX2_may_44 ?_
        exact zd_zret C hr hlk hH hS (by decide) (⟨hF, rfl⟩) dX2_may_45
  · have hF := hF.2 c1
    refine lv_iload_n C.1 C.2.1 dX2_may_5 rfl (lv_at hl 2 rfl) ?_
    refine lv_aload_n C.1 C.2.1 dX2_may_6 rfl (lv_at hl 0 rfl) ?_
    refine zg2_4 C hH (zCo_n hC) (zCo_k hC) q_452 dX2_may_7 ?_
    refine zd_icmp_eq C hb (hH.2.2.1 _ _) 26 dX2_may_10 (by decide) (fun c10 => ?_) (fun c10 => ?_)
    · have hF := hF.1 c10
      refine zd_iconst C dX2_may_26 ?_
      exact zd_zret C hr hlk hH hS (by decide) (⟨hF, rfl⟩) dX2_may_27
    · have hF := hF.2 c10
      refine lv_iload_n C.1 C.2.1 dX2_may_13 rfl (lv_at hl 2 rfl) ?_
      refine zd_if_eq C hb 22 dX2_may_14 (by decide) (fun c11 => ?_) (fun c11 => ?_)
      · have hF := hF.1 c11
        refine zd_iconst C dX2_may_22 ?_
        refine lv_goto (tgt := 27) C.1 C.2.1 dX2_may_23 (by decide) ?_
        exact zd_zret C hr hlk hH hS (by decide) (⟨hF, rfl⟩) dX2_may_27
      · have hF := hF.2 c11
        refine lv_iload_n C.1 C.2.1 dX2_may_17 rfl (lv_at hl 2 rfl) ?_
        refine zd_iconst C dX2_may_18 ?_
        refine zd_icmp_ne C hb (by decide) 26 dX2_may_19 (by decide) (fun c12 => ?_) (fun c12 => ?_)
        · have hF := hF.1 c12
          refine zd_iconst C dX2_may_26 ?_
          exact zd_zret C hr hlk hH hS (by decide) (⟨hF, rfl⟩) dX2_may_27
        · have hF := hF.2 c12
          refine zd_iconst C dX2_may_22 ?_
          refine lv_goto (tgt := 27) C.1 C.2.1 dX2_may_23 (by decide) ?_
          exact zd_zret C hr hlk hH hS (by decide) (⟨hF, rfl⟩) dX2_may_27
theorem v_X2_may {X Y : Nat → Int → Int} {R : Nat → Int → Option Nat} {i : Nat} {Z : Nat → Int → Int} {q : Nat} (a : Int) (ha : rI a) (b : Int) (hb : rI b) (hp : cA Z q X Y R i ∧ (0 ≤ a ∧ a ≤ 3) ∧ (a = 3 → 0 ≤ b ∧ b ≤ 1)) : F_X2_may i Z q X Y R a b := by
  unfold F_X2_may
  intro hX hY
  obtain ⟨hq, ⟨a0, a3⟩, hab⟩ := hp
  obtain ⟨l27, r27, e27⟩ := cA_l hq
  have x0 : coX X i 0 = X (i + 47) 4 := rfl
  have x1 : coX X i 1 = X (i + 47) 5 := rfl
  have x2 : coX X i 2 = X (i + 47) 6 := rfl
  have x3 : coX X i 3 = X (i + 47) 7 := rfl
  refine ⟨?_, ?_⟩
  · intro c1
    refine ⟨?_, ?_⟩
    · intro c2
      have e : csOk (Z q 27).toNat (coX X i) a b = false := by
        unfold csOk
        rw [if_neg c1, mIn_f.mpr (by omega)]
        rfl
      rw [e]
      rfl
    intro c3
    refine ⟨?_, ?_⟩
    · intro c4
      refine ⟨?_, ?_⟩
      · intro c5
        refine ⟨?_, ?_⟩
        · intro c6
          refine ⟨?_, ?_⟩
          · intro c7
            exfalso
            omega
          intro c8
          refine ⟨?_, ?_⟩
          · intro c9
            rw [isIn_has (by omega) (by omega)] at c9
            have sp : mHas (zAnd (zOr (X (i + 47) 5) (X (i + 47) 6)) (zXor (X (i + 47) 7) (-1))) b = (!mHas (X (i + 47) 7) b && mHas (zOr (X (i + 47) 5) (X (i + 47) 6)) b) := by
              obtain ⟨bn, rfl⟩ := nat_of (show 0 ≤ b by omega)
              rw [mHas_zb _ (by omega), mHas_zb _ (by omega), mHas_zb _ (by omega), zb_and, zb_not _ (by omega), Bool.and_comm]
            rw [sp] at c9
            have e : csOk (Z q 27).toNat (coX X i) a b = false := by
              unfold csOk
              rw [if_neg c1, mIn_t.mpr (show 1 ≤ b ∧ b ≤ ((Z q 27).toNat : Int) - 1 by omega), if_pos (by omega), x1, x2, x3, c9]
              rfl
            rw [e]
            rfl
          intro c10
          rw [isIn_has (by omega) (by omega)] at c10
          have sp : mHas (zAnd (zOr (X (i + 47) 5) (X (i + 47) 6)) (zXor (X (i + 47) 7) (-1))) b = (!mHas (X (i + 47) 7) b && mHas (zOr (X (i + 47) 5) (X (i + 47) 6)) b) := by
            obtain ⟨bn, rfl⟩ := nat_of (show 0 ≤ b by omega)
            rw [mHas_zb _ (by omega), mHas_zb _ (by omega), mHas_zb _ (by omega), zb_and, zb_not _ (by omega), Bool.and_comm]
          rw [sp] at c10
          have e : csOk (Z q 27).toNat (coX X i) a b = true := by
            unfold csOk
            rw [if_neg c1, mIn_t.mpr (show 1 ≤ b ∧ b ≤ ((Z q 27).toNat : Int) - 1 by omega), if_pos (by omega), x1, x2, x3, c10]
            rfl
          rw [e]
          rfl
        intro c11
        refine ⟨?_, ?_⟩
        · intro c12
          rw [isIn_has (by omega) (by omega)] at c12
          have e : csOk (Z q 27).toNat (coX X i) a b = false := by
            unfold csOk
            rw [if_neg c1, mIn_t.mpr (show 1 ≤ b ∧ b ≤ ((Z q 27).toNat : Int) - 1 by omega), if_neg (by omega), if_neg c5, x2, c12]
            rfl
          rw [e]
          rfl
        intro c13
        rw [isIn_has (by omega) (by omega)] at c13
        have e : csOk (Z q 27).toNat (coX X i) a b = true := by
          unfold csOk
          rw [if_neg c1, mIn_t.mpr (show 1 ≤ b ∧ b ≤ ((Z q 27).toNat : Int) - 1 by omega), if_neg (by omega), if_neg c5, x2, c13]
          rfl
        rw [e]
        rfl
      intro c14
      refine ⟨?_, ?_⟩
      · intro c15
        rw [isIn_has (by omega) (by omega)] at c15
        have e : csOk (Z q 27).toNat (coX X i) a b = false := by
          unfold csOk
          rw [if_neg c1, mIn_t.mpr (show 1 ≤ b ∧ b ≤ ((Z q 27).toNat : Int) - 1 by omega), if_neg (by omega), if_pos (by omega), x1, c15]
          rfl
        rw [e]
        rfl
      intro c16
      rw [isIn_has (by omega) (by omega)] at c16
      have e : csOk (Z q 27).toNat (coX X i) a b = true := by
        unfold csOk
        rw [if_neg c1, mIn_t.mpr (show 1 ≤ b ∧ b ≤ ((Z q 27).toNat : Int) - 1 by omega), if_neg (by omega), if_pos (by omega), x1, c16]
        rfl
      rw [e]
      rfl
    intro c17
    have e : csOk (Z q 27).toNat (coX X i) a b = false := by
      unfold csOk
      rw [if_neg c1, mIn_f.mpr (by omega)]
      rfl
    rw [e]
    rfl
  intro c18
  refine ⟨?_, ?_⟩
  · intro c19
    have e : csOk (Z q 27).toNat (coX X i) a b = false := by
      unfold csOk
      rw [if_pos (by omega), x0]
      exact decide_eq_false (fun g => g c19.symm)
    rw [e]
    rfl
  intro c20
  refine ⟨?_, ?_⟩
  · intro c21
    have e : csOk (Z q 27).toNat (coX X i) a b = true := by
      unfold csOk
      rw [if_pos (by omega), x0]
      exact decide_eq_true (fun g => c20 g.symm)
    rw [e]
    rfl
  intro c22
  refine ⟨?_, ?_⟩
  · intro c23
    exfalso
    omega
  intro c24
  have e : csOk (Z q 27).toNat (coX X i) a b = true := by
    unfold csOk
    rw [if_pos (by omega), x0]
    exact decide_eq_true (fun g => c20 g.symm)
  rw [e]
  rfl
theorem c_X2_may {l : Launch} {D : va_G} {cy : Nat → ClassId} {bs N : Nat} {sa : Nat → Nat} {kd len : Nat → Nat} {X Y : Nat → Int → Int} {R : Nat → Int → Option Nat} {i : Nat} {Z : Nat → Int → Int} {q : Nat} (hC : zCourse N kd len R i) (a : Int) (ha : rI a) (b : Int) (hb : rI b) (hp : cA Z q X Y R i ∧ (0 ≤ a ∧ a ≤ 3) ∧ (a = 3 → 0 ≤ b ∧ b ≤ 1)) : Met l yX2_may (.code yX2_may cX2_may 3 (some .boolean) :: zTB) (zRm 1 21) (zPc D cy bs sa N kd len X Y R [.ref (bs + (i + 47)), .int (zI (a)), .int (zI (b))]) (zQi D cy bs N kd len (fun r st => r = bz (csOk (Z q 27).toNat (coX X i) (a) (b)) ∧ st = (X, Y, R))) 0 0 (zA bs) := w_X2_may hC a ha b hb (v_X2_may a ha b hb hp)
abbrev cX2_becomeWhole : ByteArray := prog_4_method_6_code
def yX2_becomeWhole : MethodName := ⟨RX2, "becomeWhole", "()V"⟩
theorem dX2_becomeWhole_0 : decode cX2_becomeWhole 0 = .ok (.iconst 1, 1) := by decide +kernel
theorem dX2_becomeWhole_1 : decode cX2_becomeWhole 1 = .ok (.istore_n 1, 1) := by decide +kernel
theorem dX2_becomeWhole_2 : decode cX2_becomeWhole 2 = .ok (.iload_n 1, 1) := by decide +kernel
theorem dX2_becomeWhole_3 : decode cX2_becomeWhole 3 = .ok (.aload_n 0, 1) := by decide +kernel
theorem dX2_becomeWhole_4 : decode cX2_becomeWhole 4 = .ok (.getfield 15, 3) := by decide +kernel
theorem dX2_becomeWhole_7 : decode cX2_becomeWhole 7 = .ok (.getfield 91, 3) := by decide +kernel
theorem dX2_becomeWhole_10 : decode cX2_becomeWhole 10 = .ok (.if_icmp .gt 91, 3) := by decide +kernel
theorem dX2_becomeWhole_13 : decode cX2_becomeWhole 13 = .ok (.aload_n 0, 1) := by decide +kernel
theorem dX2_becomeWhole_14 : decode cX2_becomeWhole 14 = .ok (.getfield 26, 3) := by decide +kernel
theorem dX2_becomeWhole_17 : decode cX2_becomeWhole 17 = .ok (.aload_n 0, 1) := by decide +kernel
theorem dX2_becomeWhole_18 : decode cX2_becomeWhole 18 = .ok (.getfield 29, 3) := by decide +kernel
theorem dX2_becomeWhole_21 : decode cX2_becomeWhole 21 = .ok (.iand, 1) := by decide +kernel
theorem dX2_becomeWhole_22 : decode cX2_becomeWhole 22 = .ok (.aload_n 0, 1) := by decide +kernel
theorem dX2_becomeWhole_23 : decode cX2_becomeWhole 23 = .ok (.getfield 15, 3) := by decide +kernel
theorem dX2_becomeWhole_26 : decode cX2_becomeWhole 26 = .ok (.getfield 97, 3) := by decide +kernel
theorem dX2_becomeWhole_29 : decode cX2_becomeWhole 29 = .ok (.iand, 1) := by decide +kernel
theorem dX2_becomeWhole_30 : decode cX2_becomeWhole 30 = .ok (.aload_n 0, 1) := by decide +kernel
theorem dX2_becomeWhole_31 : decode cX2_becomeWhole 31 = .ok (.getfield 32, 3) := by decide +kernel
theorem dX2_becomeWhole_34 : decode cX2_becomeWhole 34 = .ok (.iconst (-1), 1) := by decide +kernel
theorem dX2_becomeWhole_35 : decode cX2_becomeWhole 35 = .ok (.ixor, 1) := by decide +kernel
theorem dX2_becomeWhole_36 : decode cX2_becomeWhole 36 = .ok (.iand, 1) := by decide +kernel
theorem dX2_becomeWhole_37 : decode cX2_becomeWhole 37 = .ok (.iload_n 1, 1) := by decide +kernel
theorem dX2_becomeWhole_38 : decode cX2_becomeWhole 38 = .ok (.invokestatic 94, 3) := by decide +kernel
theorem dX2_becomeWhole_41 : decode cX2_becomeWhole 41 = .ok (.ifCond .eq 54, 3) := by decide +kernel
theorem dX2_becomeWhole_44 : decode cX2_becomeWhole 44 = .ok (.aload_n 0, 1) := by decide +kernel
theorem dX2_becomeWhole_45 : decode cX2_becomeWhole 45 = .ok (.getfield 32, 3) := by decide +kernel
theorem dX2_becomeWhole_48 : decode cX2_becomeWhole 48 = .ok (.aload_n 0, 1) := by decide +kernel
theorem dX2_becomeWhole_49 : decode cX2_becomeWhole 49 = .ok (.getfield 15, 3) := by decide +kernel
theorem dX2_becomeWhole_52 : decode cX2_becomeWhole 52 = .ok (.getfield 100, 3) := by decide +kernel
theorem dX2_becomeWhole_55 : decode cX2_becomeWhole 55 = .ok (.iload_n 1, 1) := by decide +kernel
theorem dX2_becomeWhole_56 : decode cX2_becomeWhole 56 = .ok (.iaload, 1) := by decide +kernel
theorem dX2_becomeWhole_57 : decode cX2_becomeWhole 57 = .ok (.invokestatic 94, 3) := by decide +kernel
theorem dX2_becomeWhole_60 : decode cX2_becomeWhole 60 = .ok (.ifCond .ne 6, 3) := by decide +kernel
theorem dX2_becomeWhole_63 : decode cX2_becomeWhole 63 = .ok (.goto 32, 3) := by decide +kernel
theorem dX2_becomeWhole_66 : decode cX2_becomeWhole 66 = .ok (.aload_n 0, 1) := by decide +kernel
theorem dX2_becomeWhole_67 : decode cX2_becomeWhole 67 = .ok (.dup, 1) := by decide +kernel
theorem dX2_becomeWhole_68 : decode cX2_becomeWhole 68 = .ok (.getfield 32, 3) := by decide +kernel
theorem dX2_becomeWhole_71 : decode cX2_becomeWhole 71 = .ok (.iconst 1, 1) := by decide +kernel
theorem dX2_becomeWhole_72 : decode cX2_becomeWhole 72 = .ok (.iload_n 1, 1) := by decide +kernel
theorem dX2_becomeWhole_73 : decode cX2_becomeWhole 73 = .ok (.ishl, 1) := by decide +kernel
theorem dX2_becomeWhole_74 : decode cX2_becomeWhole 74 = .ok (.ior, 1) := by decide +kernel
theorem dX2_becomeWhole_75 : decode cX2_becomeWhole 75 = .ok (.putfield 32, 3) := by decide +kernel
theorem dX2_becomeWhole_78 : decode cX2_becomeWhole 78 = .ok (.aload_n 0, 1) := by decide +kernel
theorem dX2_becomeWhole_79 : decode cX2_becomeWhole 79 = .ok (.getfield 9, 3) := by decide +kernel
theorem dX2_becomeWhole_82 : decode cX2_becomeWhole 82 = .ok (.iload_n 1, 1) := by decide +kernel
theorem dX2_becomeWhole_83 : decode cX2_becomeWhole 83 = .ok (.aload_n 0, 1) := by decide +kernel
theorem dX2_becomeWhole_84 : decode cX2_becomeWhole 84 = .ok (.dup, 1) := by decide +kernel
theorem dX2_becomeWhole_85 : decode cX2_becomeWhole 85 = .ok (.getfield 35, 3) := by decide +kernel
theorem dX2_becomeWhole_88 : decode cX2_becomeWhole 88 = .ok (.dup_x1, 1) := by decide +kernel
theorem dX2_becomeWhole_89 : decode cX2_becomeWhole 89 = .ok (.iconst 1, 1) := by decide +kernel
theorem dX2_becomeWhole_90 : decode cX2_becomeWhole 90 = .ok (.iadd, 1) := by decide +kernel
theorem dX2_becomeWhole_91 : decode cX2_becomeWhole 91 = .ok (.putfield 35, 3) := by decide +kernel
theorem dX2_becomeWhole_94 : decode cX2_becomeWhole 94 = .ok (.iastore, 1) := by decide +kernel
theorem dX2_becomeWhole_95 : decode cX2_becomeWhole 95 = .ok (.iinc 1 1, 3) := by decide +kernel
theorem dX2_becomeWhole_98 : decode cX2_becomeWhole 98 = .ok (.goto (-96), 3) := by decide +kernel
theorem dX2_becomeWhole_101 : decode cX2_becomeWhole 101 = .ok (.return_, 1) := by decide +kernel
theorem q_400 : Cond.fieldLink RX2 97 RX1 "sound" "I" ∈ zTB := zmem 400 (by decide +kernel) rfl
theorem q_403 : Cond.fieldLink RX2 100 RX1 "parent" "[I" ∈ zTB := zmem 403 (by decide +kernel) rfl
def F_X2_becomeWhole (i : Nat) (Z : Nat → Int → Int) (q : Nat) (X Y : Nat → Int → Int) (R : Nat → Int → Option Nat)  : Prop := (∀ i j, rI (X i j)) → (∀ i j, rL (Y i j)) → ((1 ≤ (1 : Int) ∧ (1 : Int) ≤ Z q 27) ∧ coT X i = csMk (cx9 Z q 0) (coT X i) ((1 : Int)).toNat ∧ (∀ z, z ≠ i + 47 → z ≠ i + 48 → X z = X z) ∧ ∀ s, s ≠ 2 → s ≠ 7 → X (i + 47) s = X (i + 47) s) ∧ (∀ (k : Int) (X2 : Nat → Int → Int), rI k → (∀ i j, rI (X2 i j)) → ((1 ≤ k ∧ k ≤ Z q 27) ∧ coT X2 i = csMk (cx9 Z q 0) (coT X i) (k).toNat ∧ (∀ z, z ≠ i + 47 → z ≠ i + 48 → X2 z = X z) ∧ ∀ s, s ≠ 2 → s ≠ 7 → X2 (i + 47) s = X (i + 47) s) → ((((X2 (i) 2) < k) → (coT (X2) i = csMk (cx9 Z q 0) (coT X i) (Z q 27).toNat ∧ (∀ z, z ≠ i + 47 → z ≠ i + 48 → (X2) z = X z) ∧ ∀ s, s ≠ 2 → s ≠ 7 → (X2) (i + 47) s = X (i + 47) s)) ∧ ((¬ ((X2 (i) 2) < k)) → ((((decide (0 ≤ k ∧ k < 15) && decide (¬ zAnd (zShr (zAnd (zAnd (zAnd (X2 (i + 47) 5) (X2 (i + 47) 6)) (X2 (i) 3)) (zXor (X2 (i + 47) 7) ((-1)))) (k)) 1 = 0)) = false) → ((rI (k + 1)) ∧ ((1 ≤ (k + 1) ∧ (k + 1) ≤ Z q 27) ∧ coT X2 i = csMk (cx9 Z q 0) (coT X i) ((k + 1)).toNat ∧ (∀ z, z ≠ i + 47 → z ≠ i + 48 → X2 z = X z) ∧ ∀ s, s ≠ 2 → s ≠ 7 → X2 (i + 47) s = X (i + 47) s) ∧ (((20 - (k + 1)).toNat) < ((20 - (k)).toNat)))) ∧ (((decide (0 ≤ k ∧ k < 15) && decide (¬ zAnd (zShr (zAnd (zAnd (zAnd (X2 (i + 47) 5) (X2 (i + 47) 6)) (X2 (i) 3)) (zXor (X2 (i + 47) 7) ((-1)))) (k)) 1 = 0)) = true) → ((0 ≤ k ∧ k < 15) ∧ ((((decide (0 ≤ X2 (i + 9) (k) ∧ X2 (i + 9) (k) < 15) && decide (¬ zAnd (zShr (X2 (i + 47) 7) (X2 (i + 9) (k))) 1 = 0)) = true) → (∀ X8 : Nat → Int → Int, X8 = zU X2 (i + 47) 7 (zOr (X2 (i + 47) 7) (zShl (1) (k))) → (∀ i j, rI (X8 i j)) → ((rI ((X8 (i + 47) 2) + 1)) ∧ (∀ X10 : Nat → Int → Int, X10 = zU X8 (i + 47) 2 ((X8 (i + 47) 2) + 1) → (∀ i j, rI (X10 i j)) → ((0 ≤ k ∧ k < 15) ∧ (∀ X12 : Nat → Int → Int, X12 = zU X10 (i + 48) (k) (X8 (i + 47) 2) → (∀ i j, rI (X12 i j)) → ((rI (k + 1)) ∧ ((1 ≤ (k + 1) ∧ (k + 1) ≤ Z q 27) ∧ coT X12 i = csMk (cx9 Z q 0) (coT X i) ((k + 1)).toNat ∧ (∀ z, z ≠ i + 47 → z ≠ i + 48 → X12 z = X z) ∧ ∀ s, s ≠ 2 → s ≠ 7 → X12 (i + 47) s = X (i + 47) s) ∧ (((20 - (k + 1)).toNat) < ((20 - (k)).toNat))))))))) ∧ (((decide (0 ≤ X2 (i + 9) (k) ∧ X2 (i + 9) (k) < 15) && decide (¬ zAnd (zShr (X2 (i + 47) 7) (X2 (i + 9) (k))) 1 = 0)) = false) → ((rI (k + 1)) ∧ ((1 ≤ (k + 1) ∧ (k + 1) ≤ Z q 27) ∧ coT X2 i = csMk (cx9 Z q 0) (coT X i) ((k + 1)).toNat ∧ (∀ z, z ≠ i + 47 → z ≠ i + 48 → X2 z = X z) ∧ ∀ s, s ≠ 2 → s ≠ 7 → X2 (i + 47) s = X (i + 47) s) ∧ (((20 - (k + 1)).toNat) < ((20 - (k)).toNat)))))))))))
set_option maxHeartbeats 4000000 in
set_option maxRecDepth 100000 in
theorem w_X2_becomeWhole {l : Launch} {D : va_G} {cy : Nat → ClassId} {bs N : Nat} {sa : Nat → Nat} {kd len : Nat → Nat} {X Y : Nat → Int → Int} {R : Nat → Int → Option Nat} {i : Nat} {Z : Nat → Int → Int} {q : Nat} (hC : zCourse N kd len R i)  (hF : F_X2_becomeWhole i Z q X Y R ) : Met l yX2_becomeWhole (.code yX2_becomeWhole cX2_becomeWhole 2 none :: zTB) (zRm 1 21) (zPc D cy bs sa N kd len X Y R [.ref (bs + (i + 47))]) (zQv D cy bs N kd len (fun st => st.2.1 = Y ∧ st.2.2 = R ∧ (coT (st.1) i = csMk (cx9 Z q 0) (coT X i) (Z q 27).toNat ∧ (∀ z, z ≠ i + 47 → z ≠ i + 48 → (st.1) z = X z) ∧ ∀ s, s ≠ 2 → s ≠ 7 → (st.1) (i + 47) s = X (i + 47) s))) 0 0 (zA bs) := by
  refine zstart (by decide) (Nat.le_of_ble_eq_true rfl) ?_
  intro p e s m args below meth c ls C hE hH hr hlk hnm hl hargs
  have hF := hF hH.2.2.1 hH.2.2.2
  have hS : va_S (zA bs) s.heap s.heap [] := va_S.rf
  have hl : lv_has ls 2 [(0, .ref (bs + (i + 47)))] := hl
  refine zd_iconst C dX2_becomeWhole_0 ?_
  refine lv_istore_n (lv' := [(1, .int (zI (1))), (0, .ref (bs + (i + 47)))]) C.1 C.2.1 dX2_becomeWhole_1 rfl hl (by decide) rfl (fun ls hl => ?_)
  obtain ⟨hI1, hF⟩ := hF
  have L1 : ∀ (fu : Nat) (k : Int) (X2 : Nat → Int → Int), rI k → ((1 ≤ k ∧ k ≤ Z q 27) ∧ coT X2 i = csMk (cx9 Z q 0) (coT X i) (k).toNat ∧ (∀ z, z ≠ i + 47 → z ≠ i + 48 → X2 z = X z) ∧ ∀ s, s ≠ 2 → s ≠ 7 → X2 (i + 47) s = X (i + 47) s) → ((20 - (k)).toNat) < fu → ∀ (H : Heap) (locs : List Loc) (ls : Array Slot), zH D cy bs N kd len X2 Y R H → va_S (zA bs) s.heap H locs → lv_has ls 2 [(1, .int (zI (k))), (0, .ref (bs + (i + 47)))] → W p l e (zRm 1 21) s m args below meth c H locs 0 0 (MQ below (zQv D cy bs N kd len (fun st => st.2.1 = Y ∧ st.2.2 = R ∧ (coT (st.1) i = csMk (cx9 Z q 0) (coT X i) (Z q 27).toNat ∧ (∀ z, z ≠ i + 47 → z ≠ i + 48 → (st.1) z = X z) ∧ ∀ s, s ≠ 2 → s ≠ 7 → (st.1) (i + 47) s = X (i + 47) s))) args s 0 0 (zA bs)) (F0 m 2 ls []) := by
    intro fu
    induction fu with
    | zero => intro k X2 _ _ hmu; exact absurd hmu (Nat.not_lt_zero _)
    | succ fu ih1 =>
      intro k X2 hk hI hmu1 H locs ls hH hS hl
      have hF := hF k X2 hk hH.2.2.1 hI
      refine lv_iload_n C.1 C.2.1 dX2_becomeWhole_2 rfl (lv_at hl 0 rfl) ?_
      refine lv_aload_n C.1 C.2.1 dX2_becomeWhole_3 rfl (lv_at hl 1 rfl) ?_
      refine zg2_0 C hH (zCo_n hC) (zCo_k hC) q_448 (zCo_r0 hC) dX2_becomeWhole_4 ?_
      refine zg1_2 C hH (zChart_n0 hC.1) (zChart_k0 hC.1) q_397 dX2_becomeWhole_7 ?_
      refine zd_icmp_gt C hk (hH.2.2.1 _ _) 101 dX2_becomeWhole_10 (by decide) (fun c3 => ?_) (fun c3 => ?_)
      · have hF := hF.1 c3
        exact zd_vret C hr hlk hH hS (⟨rfl, rfl, hF⟩) dX2_becomeWhole_101
      · have hF := hF.2 c3
        refine lv_aload_n C.1 C.2.1 dX2_becomeWhole_13 rfl (lv_at hl 1 rfl) ?_
        refine zg2_5 C hH (zCo_n hC) (zCo_k hC) q_454 dX2_becomeWhole_14 ?_
        refine lv_aload_n C.1 C.2.1 dX2_becomeWhole_17 rfl (lv_at hl 1 rfl) ?_
        refine zg2_6 C hH (zCo_n hC) (zCo_k hC) q_456 dX2_becomeWhole_18 ?_
        refine zd_iand C dX2_becomeWhole_21 ?_
        refine lv_aload_n C.1 C.2.1 dX2_becomeWhole_22 rfl (lv_at hl 1 rfl) ?_
        refine zg2_0 C hH (zCo_n hC) (zCo_k hC) q_448 (zCo_r0 hC) dX2_becomeWhole_23 ?_
        refine zg1_3 C hH (zChart_n0 hC.1) (zChart_k0 hC.1) q_400 dX2_becomeWhole_26 ?_
        refine zd_iand C dX2_becomeWhole_29 ?_
        refine lv_aload_n C.1 C.2.1 dX2_becomeWhole_30 rfl (lv_at hl 1 rfl) ?_
        refine zg2_7 C hH (zCo_n hC) (zCo_k hC) q_458 dX2_becomeWhole_31 ?_
        refine zd_iconst C dX2_becomeWhole_34 ?_
        refine zd_ixor C dX2_becomeWhole_35 ?_
        refine zd_iand C dX2_becomeWhole_36 ?_
        refine lv_iload_n C.1 C.2.1 dX2_becomeWhole_37 rfl (lv_at hl 0 rfl) ?_
        refine zgoi (zrunSN (As := [.int (zI (zAnd (zAnd (zAnd (X2 (i + 47) 5) (X2 (i + 47) 6)) (X2 (i) 3)) (zXor (X2 (i + 47) 7) ((-1))))), .int (zI (k))]) (rest := []) C hE hH hS hl.1 (c_X10_isIn (l := l)  (zAnd (zAnd (zAnd (X2 (i + 47) 5) (X2 (i + 47) 6)) (X2 (i) 3)) (zXor (X2 (i + 47) 7) ((-1)))) (zI_rg _) (k) hk) k_RX2_94 ⟨Nat.le_of_ble_eq_true rfl, Nat.le_of_ble_eq_true rfl⟩ rfl (Nat.le_of_ble_eq_true rfl) dX2_becomeWhole_38 ⟨Nat.zero_le _, Nat.zero_le _⟩) hS (fun rq Xq Yq Rq H locs hrq hq hH hS => ?_)
        obtain ⟨h91, h92⟩ := hq
        have h93 : Xq = X2 := congrArg (fun z => z.1) h92
        have h94 : Yq = Y := congrArg (fun z => z.2.1) h92
        have h95 : Rq = R := congrArg (fun z => z.2.2) h92
        rw [h93, h94, h95] at hH
        subst h91
        refine zd_ifB_eq C 95 dX2_becomeWhole_41 (by decide) (fun c4 => ?_) (fun c4 => ?_)
        · have hF := hF.1 c4
          refine zd_iinc (k := 0) (lv' := [(1, .int (zI (k + 1))), (0, .ref (bs + (i + 47)))]) C hl rfl dX2_becomeWhole_95 (by decide) rfl (fun ls hl => ?_)
          refine lv_goto (tgt := 2) C.1 C.2.1 dX2_becomeWhole_98 (by decide) ?_
          obtain ⟨o5, hF⟩ := hF
          exact ih1 (k + 1) X2 o5 hF.1 (Nat.lt_of_lt_of_le hF.2 (Nat.le_of_lt_succ hmu1)) _ _ _ hH hS (lv_sub hl [0, 1] rfl)
        · have hF := hF.2 c4
          refine lv_aload_n C.1 C.2.1 dX2_becomeWhole_44 rfl (lv_at hl 1 rfl) ?_
          refine zg2_7 C hH (zCo_n hC) (zCo_k hC) q_458 dX2_becomeWhole_45 ?_
          refine lv_aload_n C.1 C.2.1 dX2_becomeWhole_48 rfl (lv_at hl 1 rfl) ?_
          refine zg2_0 C hH (zCo_n hC) (zCo_k hC) q_448 (zCo_r0 hC) dX2_becomeWhole_49 ?_
          refine zg1_4 C hH (zChart_n0 hC.1) (zChart_k0 hC.1) q_403 (zChart_r9 hC.1) dX2_becomeWhole_52 ?_
          refine lv_iload_n C.1 C.2.1 dX2_becomeWhole_55 rfl (lv_at hl 0 rfl) ?_
          obtain ⟨o6, hF⟩ := hF
          refine zd_iald C hH (zChart_n9 hC.1) (zChart_k9 hC.1) o6.1 (by rw [zChart_l9 hC.1]; exact o6.2) (by rw [zChart_l9 hC.1]; decide) dX2_becomeWhole_56 ?_
          refine zgoi (zrunSN (As := [.int (zI (X2 (i + 47) 7)), .int (zI (X2 (i + 9) (k)))]) (rest := []) C hE hH hS hl.1 (c_X10_isIn (l := l)  (X2 (i + 47) 7) (hH.2.2.1 _ _) (X2 (i + 9) (k)) (hH.2.2.1 _ _)) k_RX2_94 ⟨Nat.le_of_ble_eq_true rfl, Nat.le_of_ble_eq_true rfl⟩ rfl (Nat.le_of_ble_eq_true rfl) dX2_becomeWhole_57 ⟨Nat.zero_le _, Nat.zero_le _⟩) hS (fun rq Xq Yq Rq H locs hrq hq hH hS => ?_)
          obtain ⟨h91, h92⟩ := hq
          have h93 : Xq = X2 := congrArg (fun z => z.1) h92
          have h94 : Yq = Y := congrArg (fun z => z.2.1) h92
          have h95 : Rq = R := congrArg (fun z => z.2.2) h92
          rw [h93, h94, h95] at hH
          subst h91
          refine zd_ifB_ne C 66 dX2_becomeWhole_60 (by decide) (fun c7 => ?_) (fun c7 => ?_)
          · have hF := hF.1 c7
            refine lv_aload_n C.1 C.2.1 dX2_becomeWhole_66 rfl (lv_at hl 1 rfl) ?_
            refine lv_dup C.1 C.2.1 dX2_becomeWhole_67 rfl ?_
            refine zg2_7 C hH (zCo_n hC) (zCo_k hC) q_458 dX2_becomeWhole_68 ?_
            refine zd_iconst C dX2_becomeWhole_71 ?_
            refine lv_iload_n C.1 C.2.1 dX2_becomeWhole_72 rfl (lv_at hl 0 rfl) ?_
            refine zd_ishl C dX2_becomeWhole_73 ?_
            refine zd_ior C dX2_becomeWhole_74 ?_
            refine zp2_7 C hH hS (zCo_n hC) (zCo_k hC) q_458 (zI_rg _) dX2_becomeWhole_75 (fun H locs hH hS => ?_)
            obtain ⟨X8, eX8⟩ : ∃ z, z = zU X2 (i + 47) 7 (zOr (X2 (i + 47) 7) (zShl (1) (k))) := ⟨_, rfl⟩
            rw [← eX8] at hH
            have hF := hF X8 eX8 hH.2.2.1
            refine lv_aload_n C.1 C.2.1 dX2_becomeWhole_78 rfl (lv_at hl 1 rfl) ?_
            refine zg2_3 C hH (zCo_n hC) (zCo_k hC) q_451 (zCo_r3 hC) dX2_becomeWhole_79 ?_
            refine lv_iload_n C.1 C.2.1 dX2_becomeWhole_82 rfl (lv_at hl 0 rfl) ?_
            refine lv_aload_n C.1 C.2.1 dX2_becomeWhole_83 rfl (lv_at hl 1 rfl) ?_
            refine lv_dup C.1 C.2.1 dX2_becomeWhole_84 rfl ?_
            refine zg2_2 C hH (zCo_n hC) (zCo_k hC) q_450 dX2_becomeWhole_85 ?_
            refine lv_dup_x1 C.1 C.2.1 dX2_becomeWhole_88 rfl rfl ?_
            refine zd_iconst C dX2_becomeWhole_89 ?_
            refine zd_iadd C dX2_becomeWhole_90 ?_
            obtain ⟨o9, hF⟩ := hF
            have gg1 := hH.2.2.1
            refine zp2_2 C hH hS (zCo_n hC) (zCo_k hC) q_450 o9 dX2_becomeWhole_91 (fun H locs hH hS => ?_)
            obtain ⟨X10, eX10⟩ : ∃ z, z = zU X8 (i + 47) 2 ((X8 (i + 47) 2) + 1) := ⟨_, rfl⟩
            rw [← eX10] at hH
            have hF := hF X10 eX10 hH.2.2.1
            obtain ⟨o11, hF⟩ := hF
            refine zd_iast C hH hS (zCo_n8 hC) (zCo_k8 hC) o11.1 (by rw [zCo_l8 hC]; exact o11.2) (by rw [zCo_l8 hC]; decide) (gg1 _ _) dX2_becomeWhole_94 (fun H locs hH hS => ?_)
            obtain ⟨X12, eX12⟩ : ∃ z, z = zU X10 (i + 48) (k) (X8 (i + 47) 2) := ⟨_, rfl⟩
            rw [← eX12] at hH
            have hF := hF X12 eX12 hH.2.2.1
            refine zd_iinc (k := 0) (lv' := [(1, .int (zI (k + 1))), (0, .ref (bs + (i + 47)))]) C hl rfl dX2_becomeWhole_95 (by decide) rfl (fun ls hl => ?_)
            refine lv_goto (tgt := 2) C.1 C.2.1 dX2_becomeWhole_98 (by decide) ?_
            obtain ⟨o13, hF⟩ := hF
            exact ih1 (k + 1) X12 o13 hF.1 (Nat.lt_of_lt_of_le hF.2 (Nat.le_of_lt_succ hmu1)) _ _ _ hH hS (lv_sub hl [0, 1] rfl)
          · have hF := hF.2 c7
            refine lv_goto (tgt := 95) C.1 C.2.1 dX2_becomeWhole_63 (by decide) ?_
            refine zd_iinc (k := 0) (lv' := [(1, .int (zI (k + 1))), (0, .ref (bs + (i + 47)))]) C hl rfl dX2_becomeWhole_95 (by decide) rfl (fun ls hl => ?_)
            refine lv_goto (tgt := 2) C.1 C.2.1 dX2_becomeWhole_98 (by decide) ?_
            obtain ⟨o14, hF⟩ := hF
            exact ih1 (k + 1) X2 o14 hF.1 (Nat.lt_of_lt_of_le hF.2 (Nat.le_of_lt_succ hmu1)) _ _ _ hH hS (lv_sub hl [0, 1] rfl)
  exact L1 (((20 - ((1 : Int))).toNat) + 1) ((1 : Int)) X (by decide) hI1 (Nat.lt_succ_self _) _ _ _ hH hS (lv_sub hl [0, 1] rfl)
theorem v_X2_becomeWhole {X Y : Nat → Int → Int} {R : Nat → Int → Option Nat} {i : Nat} {Z : Nat → Int → Int} {q : Nat}  (hp : cA Z q X Y R i ∧ oCS (coT X i) (Z q 27).toNat 1000000 1000000) : F_X2_becomeWhole i Z q X Y R  := by
  unfold F_X2_becomeWhole
  intro hX hY
  obtain ⟨hq, ho⟩ := hp
  obtain ⟨l27, r27, e27⟩ := cA_l hq
  refine ⟨?_, ?_⟩
  · exact ⟨by omega, rfl, fun _ _ _ => rfl, fun _ _ _ => rfl⟩
  intro k X2
  intro _
  intro rX2
  intro h1
  obtain ⟨⟨k1, k2⟩, hs, fo, fs⟩ := h1
  obtain ⟨kn, rfl⟩ := nat_of (show 0 ≤ k by omega)
  have e0 : ((kn : Nat) : Int).toNat = kn := by omega
  rw [e0] at hs
  have f2 : X2 i = X i := fo i (by omega) (by omega)
  refine ⟨?_, ?_⟩
  · intro c1
    rw [f2] at c1
    exact ⟨by rw [show (Z q 27).toNat = kn by omega]; exact hs, fo, fs⟩
  intro c2
  rw [f2] at c2
  have kl : (kn : Int) < Z q 27 := by omega
  have es : ((kn : Int) + 1).toNat = kn + 1 := by omega
  have hpk := vZ_P hq.1.1.1 (show 1 ≤ kn by omega) kl
  have hx : X2 (i + 9) kn = rP Z q kn := by rw [fo (i + 9) (by omega) (by omega)]; exact (cA_p hq (by omega) kl).1
  have hw : csWt (cx9 Z q 0) (coT X2 i) kn = (!mHas (X2 (i + 47) 7) kn && (mHas (X2 (i + 47) 5) kn && mHas (X2 (i + 47) 6) kn && sdf Z q kn) && mHas (X2 (i + 47) 7) (rP Z q kn)) := rfl
  have hA : mHas (zAnd (zAnd (zAnd (X2 (i + 47) 5) (X2 (i + 47) 6)) (X2 i 3)) (zXor (X2 (i + 47) 7) (-1))) kn = (mHas (X2 (i + 47) 5) kn && mHas (X2 (i + 47) 6) kn && sdf Z q kn && !mHas (X2 (i + 47) 7) kn) := by
    rw [mHas_zb _ (by omega), zb_and, zb_and, zb_and, zb_not _ (by omega), f2, ← mHas_zb _ (by omega), ← mHas_zb _ (by omega), ← mHas_zb (X i 3) (by omega), ← mHas_zb _ (by omega), cA_s hq kl]
  rw [isIn_has (by omega) (by omega), hA, hx, isIn_has (by omega) (by omega)]
  have h4 : X2 (i + 47) 2 = (csMk (cx9 Z q 0) (coT X i) kn).1 4 := by rw [← hs]; rfl
  have hf := (csMk_far (cx9 Z q 0) (coT X i) (show (Z q 27).toNat ≤ 15 by omega) kn (show kn ≤ (Z q 27).toNat by omega)).2.1
  have ho4 := ho.1.2.2.2.2.2
  refine ⟨?_, ?_⟩
  · intro c3
    refine ⟨?_, ?_⟩
    · first | omega | exact ⟨by omega, by omega⟩ | decide | assumption | exact ⟨by omega, by omega, by omega⟩ | exact ⟨by decide, by decide⟩
    refine ⟨?_, ?_⟩
    · refine ⟨by omega, ?_, fo, fs⟩
      rw [es]
      have hw0 : csWt (cx9 Z q 0) (coT X2 i) kn = false := by
        rw [hw]
        cases g1 : mHas (X2 (i + 47) 7) kn
        · rw [g1, Bool.not_false, Bool.and_true] at c3
          rw [c3]
          rfl
        · rfl
      show _ = if kn = 0 then csMk (cx9 Z q 0) (coT X i) kn else if csWt (cx9 Z q 0) (csMk (cx9 Z q 0) (coT X i) kn) kn then _ else csMk (cx9 Z q 0) (coT X i) kn
      rw [if_neg (show ¬ kn = 0 by omega), ← hs, hw0]
      rfl
    first | omega | exact ⟨by omega, by omega⟩ | decide | assumption | exact ⟨by omega, by omega, by omega⟩ | exact ⟨by decide, by decide⟩
  intro c4
  refine ⟨?_, ?_⟩
  · first | omega | exact ⟨by omega, by omega⟩ | decide | assumption | exact ⟨by omega, by omega, by omega⟩ | exact ⟨by decide, by decide⟩
  refine ⟨?_, ?_⟩
  · intro c5
    intro X8
    intro eX8
    have e8 : X8 (i + 47) 2 = X2 (i + 47) 2 := by rw [eX8, zU_n (by omega)]
    intro rX8
    refine ⟨?_, ?_⟩
    · rw [e8, h4]
      exact ⟨by omega, by omega⟩
    intro X10
    intro eX10
    intro rX10
    refine ⟨?_, ?_⟩
    · first | omega | exact ⟨by omega, by omega⟩ | decide | assumption | exact ⟨by omega, by omega, by omega⟩ | exact ⟨by decide, by decide⟩
    intro X12
    intro eX12
    intro rX12
    refine ⟨?_, ?_⟩
    · first | omega | exact ⟨by omega, by omega⟩ | decide | assumption | exact ⟨by omega, by omega, by omega⟩ | exact ⟨by decide, by decide⟩
    refine ⟨?_, ?_⟩
    · refine ⟨by omega, ?_, fun z a b => by rw [eX12, zU_o b, eX10, zU_o a, eX8, zU_o a]; exact fo z a b, fun s h2 h7 => by rw [eX12, zU_o (by omega), eX10, zU_n (by omega), eX8, zU_n (by omega)]; exact fs s h2 h7⟩
      rw [es]
      have hw0 : csWt (cx9 Z q 0) (coT X2 i) kn = true := by
        rw [Bool.and_eq_true] at c4
        rw [hw, c5, c4.2, c4.1]
        rfl
      show _ = if kn = 0 then csMk (cx9 Z q 0) (coT X i) kn else if csWt (cx9 Z q 0) (csMk (cx9 Z q 0) (coT X i) kn) kn then csBc (csMk (cx9 Z q 0) (coT X i) kn) kn else csMk (cx9 Z q 0) (coT X i) kn
      rw [if_neg (show ¬ kn = 0 by omega), ← hs, hw0, if_pos rfl]
      have c12 : coX X12 i = coX X10 i := coX_k (by rw [eX12, zU_o (by omega)])
      refine Prod.ext ?_ (funext fun j => ?_)
      · show coX X12 i = cU (cU (coX X2 i) 3 (zOr (X2 (i + 47) 7) (zShl 1 kn))) 4 (X2 (i + 47) 2 + 1)
        rw [c12, eX10, coX_2, e8, eX8, coX_7]
      · show X12 (i + 48) j = if j = kn then X2 (i + 47) 2 else X2 (i + 48) j
        rw [eX12, zU_up, eX10, zU_o (by omega), e8]
        unfold upI
        by_cases g : j = kn
        · rw [if_pos (by omega), if_pos g]
        · rw [if_neg (by omega), if_neg g, eX8, zU_o (by omega)]
    first | omega | exact ⟨by omega, by omega⟩ | decide | assumption | exact ⟨by omega, by omega, by omega⟩ | exact ⟨by decide, by decide⟩
  intro c6
  refine ⟨?_, ?_⟩
  · first | omega | exact ⟨by omega, by omega⟩ | decide | assumption | exact ⟨by omega, by omega, by omega⟩ | exact ⟨by decide, by decide⟩
  refine ⟨?_, ?_⟩
  · refine ⟨by omega, ?_, fo, fs⟩
    rw [es]
    have hw0 : csWt (cx9 Z q 0) (coT X2 i) kn = false := by rw [hw, c6, Bool.and_false]
    show _ = if kn = 0 then csMk (cx9 Z q 0) (coT X i) kn else if csWt (cx9 Z q 0) (csMk (cx9 Z q 0) (coT X i) kn) kn then _ else csMk (cx9 Z q 0) (coT X i) kn
    rw [if_neg (show ¬ kn = 0 by omega), ← hs, hw0]
    rfl
  first | omega | exact ⟨by omega, by omega⟩ | decide | assumption | exact ⟨by omega, by omega, by omega⟩ | exact ⟨by decide, by decide⟩
theorem c_X2_becomeWhole {l : Launch} {D : va_G} {cy : Nat → ClassId} {bs N : Nat} {sa : Nat → Nat} {kd len : Nat → Nat} {X Y : Nat → Int → Int} {R : Nat → Int → Option Nat} {i : Nat} {Z : Nat → Int → Int} {q : Nat} (hC : zCourse N kd len R i)  (hp : cA Z q X Y R i ∧ oCS (coT X i) (Z q 27).toNat 1000000 1000000) : Met l yX2_becomeWhole (.code yX2_becomeWhole cX2_becomeWhole 2 none :: zTB) (zRm 1 21) (zPc D cy bs sa N kd len X Y R [.ref (bs + (i + 47))]) (zQv D cy bs N kd len (fun st => st.2.1 = Y ∧ st.2.2 = R ∧ (coT (st.1) i = csMk (cx9 Z q 0) (coT X i) (Z q 27).toNat ∧ (∀ z, z ≠ i + 47 → z ≠ i + 48 → (st.1) z = X z) ∧ ∀ s, s ≠ 2 → s ≠ 7 → (st.1) (i + 47) s = X (i + 47) s))) 0 0 (zA bs) := w_X2_becomeWhole hC  (v_X2_becomeWhole  hp)
theorem csCh_a {P : Nat → Nat} {c : Nat → Int} {t : Nat} {B F : Int} (hB : B = mOnes (zAnd (wyP P (c 5).toNat) (zXor (wyP P t) (-1)))) (hF : F = mOnes (zAnd (wyP P t) (zXor (wyP P (c 5).toNat) (-1)))) (h : B ≤ 0) : cU (cU (cU (cU c 6 (c 6 + B)) 7 (c 7 + F)) 9 (max (c 9) B)) 5 t = csCh P c t := funext fun s => by
  unfold csCh cU
  rw [← hB, ← hF, if_neg (show ¬ 0 < B by omega)]
  by_cases g5 : s = 5
  · rw [if_pos g5, if_pos g5]
  · rw [if_neg g5, if_neg g5]
    by_cases g9 : s = 9
    · subst g9
      rfl
    · rw [if_neg g9]
      by_cases g7 : s = 7
      · subst g7
        rfl
      · rw [if_neg g7]
        by_cases g6 : s = 6
        · subst g6
          rfl
        · rw [if_neg g6, if_neg g6, if_neg g7, if_neg g9]
          split
          · rename_i g8
            rw [g8]
          · rfl
theorem csCh_b {P : Nat → Nat} {c : Nat → Int} {t : Nat} {B F : Int} (hB : B = mOnes (zAnd (wyP P (c 5).toNat) (zXor (wyP P t) (-1)))) (hF : F = mOnes (zAnd (wyP P t) (zXor (wyP P (c 5).toNat) (-1)))) (h : 0 < B) : cU (cU (cU (cU (cU c 6 (c 6 + B)) 7 (c 7 + F)) 9 (max (c 9) B)) 8 (c 8 + 1)) 5 t = csCh P c t := funext fun s => by
  unfold csCh cU
  rw [← hB, ← hF, if_pos h]
  by_cases g5 : s = 5
  · rw [if_pos g5, if_pos g5]
  · rw [if_neg g5, if_neg g5]
    by_cases g8 : s = 8
    · subst g8
      rfl
    · rw [if_neg g8]
      by_cases g9 : s = 9
      · subst g9
        rfl
      · rw [if_neg g9]
        by_cases g7 : s = 7
        · subst g7
          rfl
        · rw [if_neg g7]
          by_cases g6 : s = 6
          · subst g6
            rfl
          · rw [if_neg g6, if_neg g6, if_neg g7, if_neg g8, if_neg g9]
abbrev cX2_goTo : ByteArray := prog_4_method_7_code
def yX2_goTo : MethodName := ⟨RX2, "goTo", "(I)V"⟩
theorem dX2_goTo_0 : decode cX2_goTo 0 = .ok (.aload_n 0, 1) := by decide +kernel
theorem dX2_goTo_1 : decode cX2_goTo 1 = .ok (.getfield 15, 3) := by decide +kernel
theorem dX2_goTo_4 : decode cX2_goTo 4 = .ok (.getfield 103, 3) := by decide +kernel
theorem dX2_goTo_7 : decode cX2_goTo 7 = .ok (.aload_n 0, 1) := by decide +kernel
theorem dX2_goTo_8 : decode cX2_goTo 8 = .ok (.getfield 38, 3) := by decide +kernel
theorem dX2_goTo_11 : decode cX2_goTo 11 = .ok (.iaload, 1) := by decide +kernel
theorem dX2_goTo_12 : decode cX2_goTo 12 = .ok (.aload_n 0, 1) := by decide +kernel
theorem dX2_goTo_13 : decode cX2_goTo 13 = .ok (.getfield 15, 3) := by decide +kernel
theorem dX2_goTo_16 : decode cX2_goTo 16 = .ok (.getfield 103, 3) := by decide +kernel
theorem dX2_goTo_19 : decode cX2_goTo 19 = .ok (.iload_n 1, 1) := by decide +kernel
theorem dX2_goTo_20 : decode cX2_goTo 20 = .ok (.iaload, 1) := by decide +kernel
theorem dX2_goTo_21 : decode cX2_goTo 21 = .ok (.iconst (-1), 1) := by decide +kernel
theorem dX2_goTo_22 : decode cX2_goTo 22 = .ok (.ixor, 1) := by decide +kernel
theorem dX2_goTo_23 : decode cX2_goTo 23 = .ok (.iand, 1) := by decide +kernel
theorem dX2_goTo_24 : decode cX2_goTo 24 = .ok (.invokestatic 106, 3) := by decide +kernel
theorem dX2_goTo_27 : decode cX2_goTo 27 = .ok (.istore_n 2, 1) := by decide +kernel
theorem dX2_goTo_28 : decode cX2_goTo 28 = .ok (.aload_n 0, 1) := by decide +kernel
theorem dX2_goTo_29 : decode cX2_goTo 29 = .ok (.dup, 1) := by decide +kernel
theorem dX2_goTo_30 : decode cX2_goTo 30 = .ok (.getfield 44, 3) := by decide +kernel
theorem dX2_goTo_33 : decode cX2_goTo 33 = .ok (.iload_n 2, 1) := by decide +kernel
theorem dX2_goTo_34 : decode cX2_goTo 34 = .ok (.iadd, 1) := by decide +kernel
theorem dX2_goTo_35 : decode cX2_goTo 35 = .ok (.putfield 44, 3) := by decide +kernel
theorem dX2_goTo_38 : decode cX2_goTo 38 = .ok (.aload_n 0, 1) := by decide +kernel
theorem dX2_goTo_39 : decode cX2_goTo 39 = .ok (.dup, 1) := by decide +kernel
theorem dX2_goTo_40 : decode cX2_goTo 40 = .ok (.getfield 47, 3) := by decide +kernel
theorem dX2_goTo_43 : decode cX2_goTo 43 = .ok (.aload_n 0, 1) := by decide +kernel
theorem dX2_goTo_44 : decode cX2_goTo 44 = .ok (.getfield 15, 3) := by decide +kernel
theorem dX2_goTo_47 : decode cX2_goTo 47 = .ok (.getfield 103, 3) := by decide +kernel
theorem dX2_goTo_50 : decode cX2_goTo 50 = .ok (.iload_n 1, 1) := by decide +kernel
theorem dX2_goTo_51 : decode cX2_goTo 51 = .ok (.iaload, 1) := by decide +kernel
theorem dX2_goTo_52 : decode cX2_goTo 52 = .ok (.aload_n 0, 1) := by decide +kernel
theorem dX2_goTo_53 : decode cX2_goTo 53 = .ok (.getfield 15, 3) := by decide +kernel
theorem dX2_goTo_56 : decode cX2_goTo 56 = .ok (.getfield 103, 3) := by decide +kernel
theorem dX2_goTo_59 : decode cX2_goTo 59 = .ok (.aload_n 0, 1) := by decide +kernel
theorem dX2_goTo_60 : decode cX2_goTo 60 = .ok (.getfield 38, 3) := by decide +kernel
theorem dX2_goTo_63 : decode cX2_goTo 63 = .ok (.iaload, 1) := by decide +kernel
theorem dX2_goTo_64 : decode cX2_goTo 64 = .ok (.iconst (-1), 1) := by decide +kernel
theorem dX2_goTo_65 : decode cX2_goTo 65 = .ok (.ixor, 1) := by decide +kernel
theorem dX2_goTo_66 : decode cX2_goTo 66 = .ok (.iand, 1) := by decide +kernel
theorem dX2_goTo_67 : decode cX2_goTo 67 = .ok (.invokestatic 106, 3) := by decide +kernel
theorem dX2_goTo_70 : decode cX2_goTo 70 = .ok (.iadd, 1) := by decide +kernel
theorem dX2_goTo_71 : decode cX2_goTo 71 = .ok (.putfield 47, 3) := by decide +kernel
theorem dX2_goTo_74 : decode cX2_goTo 74 = .ok (.aload_n 0, 1) := by decide +kernel
theorem dX2_goTo_75 : decode cX2_goTo 75 = .ok (.aload_n 0, 1) := by decide +kernel
theorem dX2_goTo_76 : decode cX2_goTo 76 = .ok (.getfield 53, 3) := by decide +kernel
theorem dX2_goTo_79 : decode cX2_goTo 79 = .ok (.iload_n 2, 1) := by decide +kernel
theorem dX2_goTo_80 : decode cX2_goTo 80 = .ok (.invokestatic 112, 3) := by decide +kernel
theorem dX2_goTo_83 : decode cX2_goTo 83 = .ok (.putfield 53, 3) := by decide +kernel
theorem dX2_goTo_86 : decode cX2_goTo 86 = .ok (.iload_n 2, 1) := by decide +kernel
theorem dX2_goTo_87 : decode cX2_goTo 87 = .ok (.ifCond .le 13, 3) := by decide +kernel
theorem dX2_goTo_90 : decode cX2_goTo 90 = .ok (.aload_n 0, 1) := by decide +kernel
theorem dX2_goTo_91 : decode cX2_goTo 91 = .ok (.dup, 1) := by decide +kernel
theorem dX2_goTo_92 : decode cX2_goTo 92 = .ok (.getfield 50, 3) := by decide +kernel
theorem dX2_goTo_95 : decode cX2_goTo 95 = .ok (.iconst 1, 1) := by decide +kernel
theorem dX2_goTo_96 : decode cX2_goTo 96 = .ok (.iadd, 1) := by decide +kernel
theorem dX2_goTo_97 : decode cX2_goTo 97 = .ok (.putfield 50, 3) := by decide +kernel
theorem dX2_goTo_100 : decode cX2_goTo 100 = .ok (.aload_n 0, 1) := by decide +kernel
theorem dX2_goTo_101 : decode cX2_goTo 101 = .ok (.getfield 56, 3) := by decide +kernel
theorem dX2_goTo_104 : decode cX2_goTo 104 = .ok (.iconst (-1), 1) := by decide +kernel
theorem dX2_goTo_105 : decode cX2_goTo 105 = .ok (.if_icmp .ne 15, 3) := by decide +kernel
theorem dX2_goTo_108 : decode cX2_goTo 108 = .ok (.iload_n 1, 1) := by decide +kernel
theorem dX2_goTo_109 : decode cX2_goTo 109 = .ok (.ifCond .eq 11, 3) := by decide +kernel
theorem dX2_goTo_112 : decode cX2_goTo 112 = .ok (.aload_n 0, 1) := by decide +kernel
theorem dX2_goTo_113 : decode cX2_goTo 113 = .ok (.aload_n 0, 1) := by decide +kernel
theorem dX2_goTo_114 : decode cX2_goTo 114 = .ok (.getfield 41, 3) := by decide +kernel
theorem dX2_goTo_117 : decode cX2_goTo 117 = .ok (.putfield 56, 3) := by decide +kernel
theorem dX2_goTo_120 : decode cX2_goTo 120 = .ok (.aload_n 0, 1) := by decide +kernel
theorem dX2_goTo_121 : decode cX2_goTo 121 = .ok (.iload_n 1, 1) := by decide +kernel
theorem dX2_goTo_122 : decode cX2_goTo 122 = .ok (.putfield 38, 3) := by decide +kernel
theorem dX2_goTo_125 : decode cX2_goTo 125 = .ok (.return_, 1) := by decide +kernel
theorem q_405 : Cond.fieldLink RX2 103 RX1 "way" "[I" ∈ zTB := zmem 405 (by decide +kernel) rfl
theorem q_1000 : Cond.methodLink RX2 106 yJ6_bitCount_0f7a4 ∈ zTB := zmem 1000 (by decide +kernel) rfl
theorem k_RX2_106 : zLs RX2 106 yJ6_bitCount_0f7a4 cJ6_bitCount_0f7a4 1 (some .int) 1 := ⟨⟨q_1000, q_1001, q_147, q_1002⟩, ⟨by decide, by decide⟩, by decide +kernel⟩
theorem q_1006 : Cond.methodLink RX2 112 Lib.Math.max.name ∈ zTB := zmem 1006 (by decide +kernel) rfl
def F_X2_goTo (i : Nat) (Z : Nat → Int → Int) (q : Nat) (X Y : Nat → Int → Int) (R : Nat → Int → Option Nat) (a : Int) : Prop := (∀ i j, rI (X i j)) → (∀ i j, rL (Y i j)) → (0 ≤ (X (i + 47) 8) ∧ (X (i + 47) 8) < 15) ∧ ((0 ≤ a ∧ a < 15) ∧ (rI (mBc (zAnd (X (i + 10) (X (i + 47) 8)) (zXor (X (i + 10) (a)) ((-1))))) → ((rI ((X (i + 47) 10) + (mBc (zAnd (X (i + 10) (X (i + 47) 8)) (zXor (X (i + 10) (a)) ((-1))))))) ∧ (∀ X5 : Nat → Int → Int, X5 = zU X (i + 47) 10 ((X (i + 47) 10) + (mBc (zAnd (X (i + 10) (X (i + 47) 8)) (zXor (X (i + 10) (a)) ((-1)))))) → (∀ i j, rI (X5 i j)) → ((0 ≤ a ∧ a < 15) ∧ ((0 ≤ (X5 (i + 47) 8) ∧ (X5 (i + 47) 8) < 15) ∧ (rI (mBc (zAnd (X5 (i + 10) (a)) (zXor (X5 (i + 10) (X5 (i + 47) 8)) ((-1))))) → ((rI ((X5 (i + 47) 11) + (mBc (zAnd (X5 (i + 10) (a)) (zXor (X5 (i + 10) (X5 (i + 47) 8)) ((-1))))))) ∧ (∀ X10 : Nat → Int → Int, X10 = zU X5 (i + 47) 11 ((X5 (i + 47) 11) + (mBc (zAnd (X5 (i + 10) (a)) (zXor (X5 (i + 10) (X5 (i + 47) 8)) ((-1)))))) → (∀ i j, rI (X10 i j)) → (∀ X11 : Nat → Int → Int, X11 = zU X10 (i + 47) 13 (max (X10 (i + 47) 13) (mBc (zAnd (X (i + 10) (X (i + 47) 8)) (zXor (X (i + 10) (a)) ((-1)))))) → (∀ i j, rI (X11 i j)) → ((((mBc (zAnd (X (i + 10) (X (i + 47) 8)) (zXor (X (i + 10) (a)) ((-1))))) ≤ 0) → (((¬ (X11 (i + 47) 14) = (-1)) → (∀ X14 : Nat → Int → Int, X14 = zU X11 (i + 47) 8 (a) → (∀ i j, rI (X14 i j)) → (coX (X14) i = csCh (rP Z q) (coX X i) (a).toNat ∧ (∀ z, z ≠ i + 47 → (X14) z = X z) ∧ (X14) (i + 47) 1 = X (i + 47) 1 ∧ (X14) (i + 47) 9 = X (i + 47) 9 ∧ (X14) (i + 47) 14 = if X (i + 47) 14 = -1 ∧ a ≠ 0 then X (i + 47) 9 else X (i + 47) 14))) ∧ ((¬ (¬ (X11 (i + 47) 14) = (-1))) → (((a = 0) → (∀ X16 : Nat → Int → Int, X16 = zU X11 (i + 47) 8 (a) → (∀ i j, rI (X16 i j)) → (coX (X16) i = csCh (rP Z q) (coX X i) (a).toNat ∧ (∀ z, z ≠ i + 47 → (X16) z = X z) ∧ (X16) (i + 47) 1 = X (i + 47) 1 ∧ (X16) (i + 47) 9 = X (i + 47) 9 ∧ (X16) (i + 47) 14 = if X (i + 47) 14 = -1 ∧ a ≠ 0 then X (i + 47) 9 else X (i + 47) 14))) ∧ ((¬ (a = 0)) → (∀ X17 : Nat → Int → Int, X17 = zU X11 (i + 47) 14 (X11 (i + 47) 9) → (∀ i j, rI (X17 i j)) → (∀ X18 : Nat → Int → Int, X18 = zU X17 (i + 47) 8 (a) → (∀ i j, rI (X18 i j)) → (coX (X18) i = csCh (rP Z q) (coX X i) (a).toNat ∧ (∀ z, z ≠ i + 47 → (X18) z = X z) ∧ (X18) (i + 47) 1 = X (i + 47) 1 ∧ (X18) (i + 47) 9 = X (i + 47) 9 ∧ (X18) (i + 47) 14 = if X (i + 47) 14 = -1 ∧ a ≠ 0 then X (i + 47) 9 else X (i + 47) 14)))))))) ∧ ((¬ ((mBc (zAnd (X (i + 10) (X (i + 47) 8)) (zXor (X (i + 10) (a)) ((-1))))) ≤ 0)) → ((rI ((X11 (i + 47) 12) + 1)) ∧ (∀ X20 : Nat → Int → Int, X20 = zU X11 (i + 47) 12 ((X11 (i + 47) 12) + 1) → (∀ i j, rI (X20 i j)) → (((¬ (X20 (i + 47) 14) = (-1)) → (∀ X22 : Nat → Int → Int, X22 = zU X20 (i + 47) 8 (a) → (∀ i j, rI (X22 i j)) → (coX (X22) i = csCh (rP Z q) (coX X i) (a).toNat ∧ (∀ z, z ≠ i + 47 → (X22) z = X z) ∧ (X22) (i + 47) 1 = X (i + 47) 1 ∧ (X22) (i + 47) 9 = X (i + 47) 9 ∧ (X22) (i + 47) 14 = if X (i + 47) 14 = -1 ∧ a ≠ 0 then X (i + 47) 9 else X (i + 47) 14))) ∧ ((¬ (¬ (X20 (i + 47) 14) = (-1))) → (((a = 0) → (∀ X24 : Nat → Int → Int, X24 = zU X20 (i + 47) 8 (a) → (∀ i j, rI (X24 i j)) → (coX (X24) i = csCh (rP Z q) (coX X i) (a).toNat ∧ (∀ z, z ≠ i + 47 → (X24) z = X z) ∧ (X24) (i + 47) 1 = X (i + 47) 1 ∧ (X24) (i + 47) 9 = X (i + 47) 9 ∧ (X24) (i + 47) 14 = if X (i + 47) 14 = -1 ∧ a ≠ 0 then X (i + 47) 9 else X (i + 47) 14))) ∧ ((¬ (a = 0)) → (∀ X25 : Nat → Int → Int, X25 = zU X20 (i + 47) 14 (X20 (i + 47) 9) → (∀ i j, rI (X25 i j)) → (∀ X26 : Nat → Int → Int, X26 = zU X25 (i + 47) 8 (a) → (∀ i j, rI (X26 i j)) → (coX (X26) i = csCh (rP Z q) (coX X i) (a).toNat ∧ (∀ z, z ≠ i + 47 → (X26) z = X z) ∧ (X26) (i + 47) 1 = X (i + 47) 1 ∧ (X26) (i + 47) 9 = X (i + 47) 9 ∧ (X26) (i + 47) 14 = if X (i + 47) 14 = -1 ∧ a ≠ 0 then X (i + 47) 9 else X (i + 47) 14)))))))))))))))))))))
set_option maxHeartbeats 4000000 in
set_option maxRecDepth 100000 in
theorem w_X2_goTo {l : Launch} {D : va_G} {cy : Nat → ClassId} {bs N : Nat} {sa : Nat → Nat} {kd len : Nat → Nat} {X Y : Nat → Int → Int} {R : Nat → Int → Option Nat} {i : Nat} {Z : Nat → Int → Int} {q : Nat} (hC : zCourse N kd len R i) (a : Int) (ha : rI a) (hF : F_X2_goTo i Z q X Y R a) : Met l yX2_goTo (.code yX2_goTo cX2_goTo 3 none :: zTB) (zRm 1 60) (zPc D cy bs sa N kd len X Y R [.ref (bs + (i + 47)), .int (zI (a))]) (zQv D cy bs N kd len (fun st => st.2.1 = Y ∧ st.2.2 = R ∧ (coX (st.1) i = csCh (rP Z q) (coX X i) (a).toNat ∧ (∀ z, z ≠ i + 47 → (st.1) z = X z) ∧ (st.1) (i + 47) 1 = X (i + 47) 1 ∧ (st.1) (i + 47) 9 = X (i + 47) 9 ∧ (st.1) (i + 47) 14 = if X (i + 47) 14 = -1 ∧ a ≠ 0 then X (i + 47) 9 else X (i + 47) 14))) 0 0 (zA bs) := by
  refine zstart (by decide) (Nat.le_of_ble_eq_true rfl) ?_
  intro p e s m args below meth c ls C hE hH hr hlk hnm hl hargs
  have hF := hF hH.2.2.1 hH.2.2.2
  have hS : va_S (zA bs) s.heap s.heap [] := va_S.rf
  have hl : lv_has ls 3 [(0, .ref (bs + (i + 47))), (1, .int (zI (a)))] := hl
  refine lv_aload_n C.1 C.2.1 dX2_goTo_0 rfl (lv_at hl 0 rfl) ?_
  refine zg2_0 C hH (zCo_n hC) (zCo_k hC) q_448 (zCo_r0 hC) dX2_goTo_1 ?_
  refine zg1_5 C hH (zChart_n0 hC.1) (zChart_k0 hC.1) q_405 (zChart_r10 hC.1) dX2_goTo_4 ?_
  refine lv_aload_n C.1 C.2.1 dX2_goTo_7 rfl (lv_at hl 0 rfl) ?_
  refine zg2_8 C hH (zCo_n hC) (zCo_k hC) q_460 dX2_goTo_8 ?_
  obtain ⟨o1, hF⟩ := hF
  refine zd_iald C hH (zChart_n10 hC.1) (zChart_k10 hC.1) o1.1 (by rw [zChart_l10 hC.1]; exact o1.2) (by rw [zChart_l10 hC.1]; decide) dX2_goTo_11 ?_
  refine lv_aload_n C.1 C.2.1 dX2_goTo_12 rfl (lv_at hl 0 rfl) ?_
  refine zg2_0 C hH (zCo_n hC) (zCo_k hC) q_448 (zCo_r0 hC) dX2_goTo_13 ?_
  refine zg1_5 C hH (zChart_n0 hC.1) (zChart_k0 hC.1) q_405 (zChart_r10 hC.1) dX2_goTo_16 ?_
  refine lv_iload_n C.1 C.2.1 dX2_goTo_19 rfl (lv_at hl 1 rfl) ?_
  obtain ⟨o2, hF⟩ := hF
  refine zd_iald C hH (zChart_n10 hC.1) (zChart_k10 hC.1) o2.1 (by rw [zChart_l10 hC.1]; exact o2.2) (by rw [zChart_l10 hC.1]; decide) dX2_goTo_20 ?_
  refine zd_iconst C dX2_goTo_21 ?_
  refine zd_ixor C dX2_goTo_22 ?_
  refine zd_iand C dX2_goTo_23 ?_
  refine zgoi (zrunS (As := [.int (zI (zAnd (X (i + 10) (X (i + 47) 8)) (zXor (X (i + 10) (a)) ((-1)))))]) (rest := []) C hE hH hS hl.1 (c_J6_bitCount_0f7a4 (l := l)  (zAnd (X (i + 10) (X (i + 47) 8)) (zXor (X (i + 10) (a)) ((-1)))) (zI_rg _)) k_RX2_106 ⟨Nat.le_of_ble_eq_true rfl, Nat.le_of_ble_eq_true rfl⟩ rfl (Nat.le_of_ble_eq_true rfl) dX2_goTo_24 ⟨Nat.zero_le _, Nat.zero_le _⟩) hS (fun rq Xq Yq Rq H locs hrq hq hH hS => ?_)
  obtain ⟨h91, h92⟩ := hq
  have h93 : Xq = X := congrArg (fun z => z.1) h92
  have h94 : Yq = Y := congrArg (fun z => z.2.1) h92
  have h95 : Rq = R := congrArg (fun z => z.2.2) h92
  rw [h93, h94, h95] at hH
  subst h91
  have hr3 := hrq
  have hF := hF hr3
  refine lv_istore_n (lv' := [(2, .int (zI (mBc (zAnd (X (i + 10) (X (i + 47) 8)) (zXor (X (i + 10) (a)) ((-1))))))), (0, .ref (bs + (i + 47))), (1, .int (zI (a)))]) C.1 C.2.1 dX2_goTo_27 rfl hl (by decide) rfl (fun ls hl => ?_)
  refine lv_aload_n C.1 C.2.1 dX2_goTo_28 rfl (lv_at hl 1 rfl) ?_
  refine lv_dup C.1 C.2.1 dX2_goTo_29 rfl ?_
  refine zg2_10 C hH (zCo_n hC) (zCo_k hC) q_465 dX2_goTo_30 ?_
  refine lv_iload_n C.1 C.2.1 dX2_goTo_33 rfl (lv_at hl 0 rfl) ?_
  refine zd_iadd C dX2_goTo_34 ?_
  obtain ⟨o4, hF⟩ := hF
  refine zp2_10 C hH hS (zCo_n hC) (zCo_k hC) q_465 o4 dX2_goTo_35 (fun H locs hH hS => ?_)
  obtain ⟨X5, eX5⟩ : ∃ z, z = zU X (i + 47) 10 ((X (i + 47) 10) + (mBc (zAnd (X (i + 10) (X (i + 47) 8)) (zXor (X (i + 10) (a)) ((-1)))))) := ⟨_, rfl⟩
  rw [← eX5] at hH
  have hF := hF X5 eX5 hH.2.2.1
  refine lv_aload_n C.1 C.2.1 dX2_goTo_38 rfl (lv_at hl 1 rfl) ?_
  refine lv_dup C.1 C.2.1 dX2_goTo_39 rfl ?_
  refine zg2_11 C hH (zCo_n hC) (zCo_k hC) q_467 dX2_goTo_40 ?_
  refine lv_aload_n C.1 C.2.1 dX2_goTo_43 rfl (lv_at hl 1 rfl) ?_
  refine zg2_0 C hH (zCo_n hC) (zCo_k hC) q_448 (zCo_r0 hC) dX2_goTo_44 ?_
  refine zg1_5 C hH (zChart_n0 hC.1) (zChart_k0 hC.1) q_405 (zChart_r10 hC.1) dX2_goTo_47 ?_
  refine lv_iload_n C.1 C.2.1 dX2_goTo_50 rfl (lv_at hl 2 rfl) ?_
  obtain ⟨o6, hF⟩ := hF
  refine zd_iald C hH (zChart_n10 hC.1) (zChart_k10 hC.1) o6.1 (by rw [zChart_l10 hC.1]; exact o6.2) (by rw [zChart_l10 hC.1]; decide) dX2_goTo_51 ?_
  refine lv_aload_n C.1 C.2.1 dX2_goTo_52 rfl (lv_at hl 1 rfl) ?_
  refine zg2_0 C hH (zCo_n hC) (zCo_k hC) q_448 (zCo_r0 hC) dX2_goTo_53 ?_
  refine zg1_5 C hH (zChart_n0 hC.1) (zChart_k0 hC.1) q_405 (zChart_r10 hC.1) dX2_goTo_56 ?_
  refine lv_aload_n C.1 C.2.1 dX2_goTo_59 rfl (lv_at hl 1 rfl) ?_
  refine zg2_8 C hH (zCo_n hC) (zCo_k hC) q_460 dX2_goTo_60 ?_
  obtain ⟨o7, hF⟩ := hF
  refine zd_iald C hH (zChart_n10 hC.1) (zChart_k10 hC.1) o7.1 (by rw [zChart_l10 hC.1]; exact o7.2) (by rw [zChart_l10 hC.1]; decide) dX2_goTo_63 ?_
  refine zd_iconst C dX2_goTo_64 ?_
  refine zd_ixor C dX2_goTo_65 ?_
  refine zd_iand C dX2_goTo_66 ?_
  refine zgoi (zrunS (As := [.int (zI (zAnd (X5 (i + 10) (a)) (zXor (X5 (i + 10) (X5 (i + 47) 8)) ((-1)))))]) (rest := [.int (zI (X5 (i + 47) 11)), .ref (bs + (i + 47))]) C hE hH hS hl.1 (c_J6_bitCount_0f7a4 (l := l)  (zAnd (X5 (i + 10) (a)) (zXor (X5 (i + 10) (X5 (i + 47) 8)) ((-1)))) (zI_rg _)) k_RX2_106 ⟨Nat.le_of_ble_eq_true rfl, Nat.le_of_ble_eq_true rfl⟩ rfl (Nat.le_of_ble_eq_true rfl) dX2_goTo_67 ⟨Nat.zero_le _, Nat.zero_le _⟩) hS (fun rq Xq Yq Rq H locs hrq hq hH hS => ?_)
  obtain ⟨h91, h92⟩ := hq
  have h93 : Xq = X5 := congrArg (fun z => z.1) h92
  have h94 : Yq = Y := congrArg (fun z => z.2.1) h92
  have h95 : Rq = R := congrArg (fun z => z.2.2) h92
  rw [h93, h94, h95] at hH
  subst h91
  have hr8 := hrq
  have hF := hF hr8
  refine zd_iadd C dX2_goTo_70 ?_
  obtain ⟨o9, hF⟩ := hF
  refine zp2_11 C hH hS (zCo_n hC) (zCo_k hC) q_467 o9 dX2_goTo_71 (fun H locs hH hS => ?_)
  obtain ⟨X10, eX10⟩ : ∃ z, z = zU X5 (i + 47) 11 ((X5 (i + 47) 11) + (mBc (zAnd (X5 (i + 10) (a)) (zXor (X5 (i + 10) (X5 (i + 47) 8)) ((-1)))))) := ⟨_, rfl⟩
  rw [← eX10] at hH
  have hF := hF X10 eX10 hH.2.2.1
  refine lv_aload_n C.1 C.2.1 dX2_goTo_74 rfl (lv_at hl 1 rfl) ?_
  refine lv_aload_n C.1 C.2.1 dX2_goTo_75 rfl (lv_at hl 1 rfl) ?_
  refine zg2_13 C hH (zCo_n hC) (zCo_k hC) q_471 dX2_goTo_76 ?_
  refine lv_iload_n C.1 C.2.1 dX2_goTo_79 rfl (lv_at hl 0 rfl) ?_
  refine zd_mmax C hl.1 q_1006 q_805 q_141 q_806 (Nat.le_of_ble_eq_true rfl) (Nat.le_of_ble_eq_true rfl) (Nat.zero_le _) (Nat.zero_le _) (hH.2.2.1 _ _) hr3 dX2_goTo_80 ?_
  refine zp2_13 C hH hS (zCo_n hC) (zCo_k hC) q_471 (mx_rI (hH.2.2.1 _ _) hr3) dX2_goTo_83 (fun H locs hH hS => ?_)
  obtain ⟨X11, eX11⟩ : ∃ z, z = zU X10 (i + 47) 13 (max (X10 (i + 47) 13) (mBc (zAnd (X (i + 10) (X (i + 47) 8)) (zXor (X (i + 10) (a)) ((-1)))))) := ⟨_, rfl⟩
  rw [← eX11] at hH
  have hF := hF X11 eX11 hH.2.2.1
  refine lv_iload_n C.1 C.2.1 dX2_goTo_86 rfl (lv_at hl 0 rfl) ?_
  refine zd_if_le C hr3 100 dX2_goTo_87 (by decide) (fun c12 => ?_) (fun c12 => ?_)
  · have hF := hF.1 c12
    refine lv_aload_n C.1 C.2.1 dX2_goTo_100 rfl (lv_at hl 1 rfl) ?_
    refine zg2_14 C hH (zCo_n hC) (zCo_k hC) q_473 dX2_goTo_101 ?_
    refine zd_iconst C dX2_goTo_104 ?_
    refine zd_icmp_ne C (hH.2.2.1 _ _) (by decide) 120 dX2_goTo_105 (by decide) (fun c13 => ?_) (fun c13 => ?_)
    · have hF := hF.1 c13
      refine lv_aload_n C.1 C.2.1 dX2_goTo_120 rfl (lv_at hl 1 rfl) ?_
      refine lv_iload_n C.1 C.2.1 dX2_goTo_121 rfl (lv_at hl 2 rfl) ?_
      refine zp2_8 C hH hS (zCo_n hC) (zCo_k hC) q_460 ha dX2_goTo_122 (fun H locs hH hS => ?_)
      obtain ⟨X14, eX14⟩ : ∃ z, z = zU X11 (i + 47) 8 (a) := ⟨_, rfl⟩
      rw [← eX14] at hH
      have hF := hF X14 eX14 hH.2.2.1
      exact zd_vret C hr hlk hH hS (⟨rfl, rfl, hF⟩) dX2_goTo_125
    · have hF := hF.2 c13
      refine lv_iload_n C.1 C.2.1 dX2_goTo_108 rfl (lv_at hl 2 rfl) ?_
      refine zd_if_eq C ha 120 dX2_goTo_109 (by decide) (fun c15 => ?_) (fun c15 => ?_)
      · have hF := hF.1 c15
        refine lv_aload_n C.1 C.2.1 dX2_goTo_120 rfl (lv_at hl 1 rfl) ?_
        refine lv_iload_n C.1 C.2.1 dX2_goTo_121 rfl (lv_at hl 2 rfl) ?_
        refine zp2_8 C hH hS (zCo_n hC) (zCo_k hC) q_460 ha dX2_goTo_122 (fun H locs hH hS => ?_)
        obtain ⟨X16, eX16⟩ : ∃ z, z = zU X11 (i + 47) 8 (a) := ⟨_, rfl⟩
        rw [← eX16] at hH
        have hF := hF X16 eX16 hH.2.2.1
        exact zd_vret C hr hlk hH hS (⟨rfl, rfl, hF⟩) dX2_goTo_125
      · have hF := hF.2 c15
        refine lv_aload_n C.1 C.2.1 dX2_goTo_112 rfl (lv_at hl 1 rfl) ?_
        refine lv_aload_n C.1 C.2.1 dX2_goTo_113 rfl (lv_at hl 1 rfl) ?_
        refine zg2_9 C hH (zCo_n hC) (zCo_k hC) q_463 dX2_goTo_114 ?_
        refine zp2_14 C hH hS (zCo_n hC) (zCo_k hC) q_473 (hH.2.2.1 _ _) dX2_goTo_117 (fun H locs hH hS => ?_)
        obtain ⟨X17, eX17⟩ : ∃ z, z = zU X11 (i + 47) 14 (X11 (i + 47) 9) := ⟨_, rfl⟩
        rw [← eX17] at hH
        have hF := hF X17 eX17 hH.2.2.1
        refine lv_aload_n C.1 C.2.1 dX2_goTo_120 rfl (lv_at hl 1 rfl) ?_
        refine lv_iload_n C.1 C.2.1 dX2_goTo_121 rfl (lv_at hl 2 rfl) ?_
        refine zp2_8 C hH hS (zCo_n hC) (zCo_k hC) q_460 ha dX2_goTo_122 (fun H locs hH hS => ?_)
        obtain ⟨X18, eX18⟩ : ∃ z, z = zU X17 (i + 47) 8 (a) := ⟨_, rfl⟩
        rw [← eX18] at hH
        have hF := hF X18 eX18 hH.2.2.1
        exact zd_vret C hr hlk hH hS (⟨rfl, rfl, hF⟩) dX2_goTo_125
  · have hF := hF.2 c12
    refine lv_aload_n C.1 C.2.1 dX2_goTo_90 rfl (lv_at hl 1 rfl) ?_
    refine lv_dup C.1 C.2.1 dX2_goTo_91 rfl ?_
    refine zg2_12 C hH (zCo_n hC) (zCo_k hC) q_469 dX2_goTo_92 ?_
    refine zd_iconst C dX2_goTo_95 ?_
    refine zd_iadd C dX2_goTo_96 ?_
    obtain ⟨o19, hF⟩ := hF
    refine zp2_12 C hH hS (zCo_n hC) (zCo_k hC) q_469 o19 dX2_goTo_97 (fun H locs hH hS => ?_)
    obtain ⟨X20, eX20⟩ : ∃ z, z = zU X11 (i + 47) 12 ((X11 (i + 47) 12) + 1) := ⟨_, rfl⟩
    rw [← eX20] at hH
    have hF := hF X20 eX20 hH.2.2.1
    refine lv_aload_n C.1 C.2.1 dX2_goTo_100 rfl (lv_at hl 1 rfl) ?_
    refine zg2_14 C hH (zCo_n hC) (zCo_k hC) q_473 dX2_goTo_101 ?_
    refine zd_iconst C dX2_goTo_104 ?_
    refine zd_icmp_ne C (hH.2.2.1 _ _) (by decide) 120 dX2_goTo_105 (by decide) (fun c21 => ?_) (fun c21 => ?_)
    · have hF := hF.1 c21
      refine lv_aload_n C.1 C.2.1 dX2_goTo_120 rfl (lv_at hl 1 rfl) ?_
      refine lv_iload_n C.1 C.2.1 dX2_goTo_121 rfl (lv_at hl 2 rfl) ?_
      refine zp2_8 C hH hS (zCo_n hC) (zCo_k hC) q_460 ha dX2_goTo_122 (fun H locs hH hS => ?_)
      obtain ⟨X22, eX22⟩ : ∃ z, z = zU X20 (i + 47) 8 (a) := ⟨_, rfl⟩
      rw [← eX22] at hH
      have hF := hF X22 eX22 hH.2.2.1
      exact zd_vret C hr hlk hH hS (⟨rfl, rfl, hF⟩) dX2_goTo_125
    · have hF := hF.2 c21
      refine lv_iload_n C.1 C.2.1 dX2_goTo_108 rfl (lv_at hl 2 rfl) ?_
      refine zd_if_eq C ha 120 dX2_goTo_109 (by decide) (fun c23 => ?_) (fun c23 => ?_)
      · have hF := hF.1 c23
        refine lv_aload_n C.1 C.2.1 dX2_goTo_120 rfl (lv_at hl 1 rfl) ?_
        refine lv_iload_n C.1 C.2.1 dX2_goTo_121 rfl (lv_at hl 2 rfl) ?_
        refine zp2_8 C hH hS (zCo_n hC) (zCo_k hC) q_460 ha dX2_goTo_122 (fun H locs hH hS => ?_)
        obtain ⟨X24, eX24⟩ : ∃ z, z = zU X20 (i + 47) 8 (a) := ⟨_, rfl⟩
        rw [← eX24] at hH
        have hF := hF X24 eX24 hH.2.2.1
        exact zd_vret C hr hlk hH hS (⟨rfl, rfl, hF⟩) dX2_goTo_125
      · have hF := hF.2 c23
        refine lv_aload_n C.1 C.2.1 dX2_goTo_112 rfl (lv_at hl 1 rfl) ?_
        refine lv_aload_n C.1 C.2.1 dX2_goTo_113 rfl (lv_at hl 1 rfl) ?_
        refine zg2_9 C hH (zCo_n hC) (zCo_k hC) q_463 dX2_goTo_114 ?_
        refine zp2_14 C hH hS (zCo_n hC) (zCo_k hC) q_473 (hH.2.2.1 _ _) dX2_goTo_117 (fun H locs hH hS => ?_)
        obtain ⟨X25, eX25⟩ : ∃ z, z = zU X20 (i + 47) 14 (X20 (i + 47) 9) := ⟨_, rfl⟩
        rw [← eX25] at hH
        have hF := hF X25 eX25 hH.2.2.1
        refine lv_aload_n C.1 C.2.1 dX2_goTo_120 rfl (lv_at hl 1 rfl) ?_
        refine lv_iload_n C.1 C.2.1 dX2_goTo_121 rfl (lv_at hl 2 rfl) ?_
        refine zp2_8 C hH hS (zCo_n hC) (zCo_k hC) q_460 ha dX2_goTo_122 (fun H locs hH hS => ?_)
        obtain ⟨X26, eX26⟩ : ∃ z, z = zU X25 (i + 47) 8 (a) := ⟨_, rfl⟩
        rw [← eX26] at hH
        have hF := hF X26 eX26 hH.2.2.1
        exact zd_vret C hr hlk hH hS (⟨rfl, rfl, hF⟩) dX2_goTo_125
theorem v_X2_goTo {X Y : Nat → Int → Int} {R : Nat → Int → Option Nat} {i : Nat} {Z : Nat → Int → Int} {q : Nat} (a : Int) (ha : rI a) (hp : cA Z q X Y R i ∧ (0 ≤ a ∧ a < Z q 27) ∧ oCS (coT X i) (Z q 27).toNat 2000000 2000000) : F_X2_goTo i Z q X Y R a := by
  unfold F_X2_goTo
  intro hX hY
  obtain ⟨hq, ⟨a0, a1⟩, ho⟩ := hp
  obtain ⟨l27, r27, e27⟩ := cA_l hq
  obtain ⟨an, rfl⟩ := nat_of a0
  have ea : ((an : Nat) : Int).toNat = an := by omega
  have ob := ho.1
  have t0 : 0 ≤ X (i + 47) 8 ∧ X (i + 47) 8 < (Z q 27).toNat := ob.1
  have u0 : 0 ≤ X (i + 47) 10 ∧ X (i + 47) 10 ≤ 2000000 := ob.2.1
  have d0 : 0 ≤ X (i + 47) 11 ∧ X (i + 47) 11 ≤ 2000000 := ob.2.2.1
  have s0 : 0 ≤ X (i + 47) 12 ∧ X (i + 47) 12 ≤ 2000000 := ob.2.2.2.1
  obtain ⟨p, hp8⟩ := nat_of t0.1
  have hpw : X (i + 10) (X (i + 47) 8) = wyP (rP Z q) p := by rw [hp8]; exact cA_w hq (by omega)
  have haw : X (i + 10) an = wyP (rP Z q) an := cA_w hq (by omega)
  have hBv : mBc (zAnd (X (i + 10) (X (i + 47) 8)) (zXor (X (i + 10) an) (-1))) = mOnes (zAnd (wyP (rP Z q) p) (zXor (wyP (rP Z q) an) (-1))) := by
    rw [hpw, haw, mBc_ones (and_sm wy_sm).1 (and_sm wy_sm).2]
  have hFv : mBc (zAnd (X (i + 10) an) (zXor (X (i + 10) (X (i + 47) 8)) (-1))) = mOnes (zAnd (wyP (rP Z q) an) (zXor (wyP (rP Z q) p) (-1))) := by
    rw [hpw, haw, mBc_ones (and_sm wy_sm).1 (and_sm wy_sm).2]
  have bB := mOnes_b (zAnd (wyP (rP Z q) p) (zXor (wyP (rP Z q) an) (-1)))
  have bF := mOnes_b (zAnd (wyP (rP Z q) an) (zXor (wyP (rP Z q) p) (-1)))
  rw [hBv]
  have hc5 : (coX X i 5).toNat = p := by show (X (i + 47) 8).toNat = p; omega
  have hcB : mOnes (zAnd (wyP (rP Z q) p) (zXor (wyP (rP Z q) an) (-1))) = mOnes (zAnd (wyP (rP Z q) (coX X i 5).toNat) (zXor (wyP (rP Z q) an) (-1))) := by rw [hc5]
  have hcF : mOnes (zAnd (wyP (rP Z q) an) (zXor (wyP (rP Z q) p) (-1))) = mOnes (zAnd (wyP (rP Z q) an) (zXor (wyP (rP Z q) (coX X i 5).toNat) (-1))) := by rw [hc5]
  refine ⟨?_, ?_⟩
  · omega
  refine ⟨?_, ?_⟩
  · first | omega | exact ⟨by omega, by omega⟩ | decide | assumption | exact ⟨by omega, by omega, by omega⟩ | exact ⟨by decide, by decide⟩
  intro _
  refine ⟨?_, ?_⟩
  · exact ⟨by omega, by omega⟩
  intro X5
  intro eX5
  have o5 : X5 (i + 10) = X (i + 10) := by rw [eX5, zU_o (by omega)]
  have e8 : X5 (i + 47) 8 = X (i + 47) 8 := by rw [eX5, zU_n (by omega)]
  have e11 : X5 (i + 47) 11 = X (i + 47) 11 := by rw [eX5, zU_n (by omega)]
  rw [o5, e8, hFv, e11]
  intro rX5
  refine ⟨?_, ?_⟩
  · first | omega | exact ⟨by omega, by omega⟩ | decide | assumption | exact ⟨by omega, by omega, by omega⟩ | exact ⟨by decide, by decide⟩
  refine ⟨?_, ?_⟩
  · omega
  intro _
  refine ⟨?_, ?_⟩
  · exact ⟨by omega, by omega⟩
  intro X10
  intro eX10
  have e13 : X10 (i + 47) 13 = X (i + 47) 13 := by rw [eX10, zU_n (by omega), eX5, zU_n (by omega)]
  rw [e13]
  intro rX10
  intro X11
  intro eX11
  have g11 : coX X11 i = cU (cU (cU (coX X i) 6 (coX X i 6 + mOnes (zAnd (wyP (rP Z q) p) (zXor (wyP (rP Z q) an) (-1))))) 7 (coX X i 7 + mOnes (zAnd (wyP (rP Z q) an) (zXor (wyP (rP Z q) p) (-1))))) 9 (max (coX X i 9) (mOnes (zAnd (wyP (rP Z q) p) (zXor (wyP (rP Z q) an) (-1))))) := by
    rw [eX11, coX_13, eX10, coX_11, eX5, coX_10]
    rfl
  have h14 : X11 (i + 47) 14 = X (i + 47) 14 := by rw [eX11, zU_n (by omega), eX10, zU_n (by omega), eX5, zU_n (by omega)]
  have h12 : X11 (i + 47) 12 = X (i + 47) 12 := by rw [eX11, zU_n (by omega), eX10, zU_n (by omega), eX5, zU_n (by omega)]
  have h9 : X11 (i + 47) 9 = X (i + 47) 9 := by rw [eX11, zU_n (by omega), eX10, zU_n (by omega), eX5, zU_n (by omega)]
  have h1 : X11 (i + 47) 1 = X (i + 47) 1 := by rw [eX11, zU_n (by omega), eX10, zU_n (by omega), eX5, zU_n (by omega)]
  have o11 : ∀ z, z ≠ i + 47 → X11 z = X z := fun z a => by rw [eX11, zU_o a, eX10, zU_o a, eX5, zU_o a]
  intro rX11
  refine ⟨?_, ?_⟩
  · intro c1
    refine ⟨?_, ?_⟩
    · intro c2
      rw [h14] at c2
      intro X14
      intro eX14
      intro rX14
      refine ⟨?_, fun z a => by rw [eX14, zU_o a]; exact o11 z a, by rw [eX14, zU_n (by omega), h1], by rw [eX14, zU_n (by omega), h9], ?_⟩
      · rw [ea]
        refine Eq.trans ?_ (csCh_a hcB hcF (by omega))
        rw [eX14, coX_8, g11]
      · rw [eX14, zU_n (by omega), h14, if_neg (fun g => c2 g.1)]
    intro c3
    rw [h14] at c3
    have c3 := Classical.not_not.mp c3
    refine ⟨?_, ?_⟩
    · intro c4
      intro X16
      intro eX16
      intro rX16
      refine ⟨?_, fun z a => by rw [eX16, zU_o a]; exact o11 z a, by rw [eX16, zU_n (by omega), h1], by rw [eX16, zU_n (by omega), h9], ?_⟩
      · rw [ea]
        refine Eq.trans ?_ (csCh_a hcB hcF (by omega))
        rw [eX16, coX_8, g11]
      · rw [eX16, zU_n (by omega), h14, if_neg (fun g => g.2 c4)]
    intro c5
    intro X17
    intro eX17
    rw [h9] at eX17
    intro rX17
    intro X18
    intro eX18
    intro rX18
    refine ⟨?_, fun z a => by rw [eX18, zU_o a, eX17, zU_o a]; exact o11 z a, by rw [eX18, zU_n (by omega), eX17, zU_n (by omega), h1], by rw [eX18, zU_n (by omega), eX17, zU_n (by omega), h9], ?_⟩
    · rw [ea]
      refine Eq.trans ?_ (csCh_a hcB hcF (by omega))
      rw [eX18, coX_8, coX_N (X := X11) (fun s hs => by rw [eX17, zU_n (fun g => (by decide : ∀ s, s ∈ coSl → s ≠ 14) s hs g.2)]), g11]
    · rw [eX18, zU_n (by omega), eX17, zU_s, if_pos ⟨c3, c5⟩]
  intro c6
  rw [h12]
  refine ⟨?_, ?_⟩
  · exact ⟨by omega, by omega⟩
  intro X20
  intro eX20
  have h20 : X20 (i + 47) 14 = X (i + 47) 14 := by rw [eX20, zU_n (by omega), h14]
  have h29 : X20 (i + 47) 9 = X (i + 47) 9 := by rw [eX20, zU_n (by omega), h9]
  rw [h20]
  intro rX20
  refine ⟨?_, ?_⟩
  · intro c7
    intro X22
    intro eX22
    intro rX22
    refine ⟨?_, fun z a => by rw [eX22, zU_o a, eX20, zU_o a]; exact o11 z a, by rw [eX22, zU_n (by omega), eX20, zU_n (by omega), h1], by rw [eX22, zU_n (by omega), eX20, zU_n (by omega), h9], ?_⟩
    · rw [ea]
      refine Eq.trans ?_ (csCh_b hcB hcF (by omega))
      rw [eX22, coX_8, eX20, coX_12, g11]
      rfl
    · rw [eX22, zU_n (by omega), h20, if_neg (fun g => c7 g.1)]
  intro c8
  have c8 := Classical.not_not.mp c8
  refine ⟨?_, ?_⟩
  · intro c9
    intro X24
    intro eX24
    intro rX24
    refine ⟨?_, fun z a => by rw [eX24, zU_o a, eX20, zU_o a]; exact o11 z a, by rw [eX24, zU_n (by omega), eX20, zU_n (by omega), h1], by rw [eX24, zU_n (by omega), eX20, zU_n (by omega), h9], ?_⟩
    · rw [ea]
      refine Eq.trans ?_ (csCh_b hcB hcF (by omega))
      rw [eX24, coX_8, eX20, coX_12, g11]
      rfl
    · rw [eX24, zU_n (by omega), h20, if_neg (fun g => g.2 c9)]
  intro c10
  intro X25
  intro eX25
  rw [h29] at eX25
  intro rX25
  intro X26
  intro eX26
  intro rX26
  refine ⟨?_, fun z a => by rw [eX26, zU_o a, eX25, zU_o a, eX20, zU_o a]; exact o11 z a, by rw [eX26, zU_n (by omega), eX25, zU_n (by omega), eX20, zU_n (by omega), h1], by rw [eX26, zU_n (by omega), eX25, zU_n (by omega), eX20, zU_n (by omega), h9], ?_⟩
  · rw [ea]
    refine Eq.trans ?_ (csCh_b hcB hcF (by omega))
    rw [eX26, coX_8, coX_N (X := X20) (fun s hs => by rw [eX25, zU_n (fun g => (by decide : ∀ s, s ∈ coSl → s ≠ 14) s hs g.2)]), eX20, coX_12, g11]
    rfl
  · rw [eX26, zU_n (by omega), eX25, zU_s, if_pos ⟨c8, c10⟩]
theorem c_X2_goTo {l : Launch} {D : va_G} {cy : Nat → ClassId} {bs N : Nat} {sa : Nat → Nat} {kd len : Nat → Nat} {X Y : Nat → Int → Int} {R : Nat → Int → Option Nat} {i : Nat} {Z : Nat → Int → Int} {q : Nat} (hC : zCourse N kd len R i) (a : Int) (ha : rI a) (hp : cA Z q X Y R i ∧ (0 ≤ a ∧ a < Z q 27) ∧ oCS (coT X i) (Z q 27).toNat 2000000 2000000) : Met l yX2_goTo (.code yX2_goTo cX2_goTo 3 none :: zTB) (zRm 1 60) (zPc D cy bs sa N kd len X Y R [.ref (bs + (i + 47)), .int (zI (a))]) (zQv D cy bs N kd len (fun st => st.2.1 = Y ∧ st.2.2 = R ∧ (coX (st.1) i = csCh (rP Z q) (coX X i) (a).toNat ∧ (∀ z, z ≠ i + 47 → (st.1) z = X z) ∧ (st.1) (i + 47) 1 = X (i + 47) 1 ∧ (st.1) (i + 47) 9 = X (i + 47) 9 ∧ (st.1) (i + 47) 14 = if X (i + 47) 14 = -1 ∧ a ≠ 0 then X (i + 47) 9 else X (i + 47) 14))) 0 0 (zA bs) := w_X2_goTo hC a ha (v_X2_goTo a ha hp)
abbrev cX2_orphans : ByteArray := prog_4_method_8_code
def yX2_orphans : MethodName := ⟨RX2, "orphans", "()I"⟩
theorem dX2_orphans_0 : decode cX2_orphans 0 = .ok (.iconst 0, 1) := by decide +kernel
theorem dX2_orphans_1 : decode cX2_orphans 1 = .ok (.istore_n 1, 1) := by decide +kernel
theorem dX2_orphans_2 : decode cX2_orphans 2 = .ok (.iconst 1, 1) := by decide +kernel
theorem dX2_orphans_3 : decode cX2_orphans 3 = .ok (.istore_n 2, 1) := by decide +kernel
theorem dX2_orphans_4 : decode cX2_orphans 4 = .ok (.iload_n 2, 1) := by decide +kernel
theorem dX2_orphans_5 : decode cX2_orphans 5 = .ok (.aload_n 0, 1) := by decide +kernel
theorem dX2_orphans_6 : decode cX2_orphans 6 = .ok (.getfield 15, 3) := by decide +kernel
theorem dX2_orphans_9 : decode cX2_orphans 9 = .ok (.getfield 91, 3) := by decide +kernel
theorem dX2_orphans_12 : decode cX2_orphans 12 = .ok (.if_icmp .gt 45, 3) := by decide +kernel
theorem dX2_orphans_15 : decode cX2_orphans 15 = .ok (.aload_n 0, 1) := by decide +kernel
theorem dX2_orphans_16 : decode cX2_orphans 16 = .ok (.getfield 26, 3) := by decide +kernel
theorem dX2_orphans_19 : decode cX2_orphans 19 = .ok (.iload_n 2, 1) := by decide +kernel
theorem dX2_orphans_20 : decode cX2_orphans 20 = .ok (.invokestatic 94, 3) := by decide +kernel
theorem dX2_orphans_23 : decode cX2_orphans 23 = .ok (.ifCond .eq 28, 3) := by decide +kernel
theorem dX2_orphans_26 : decode cX2_orphans 26 = .ok (.aload_n 0, 1) := by decide +kernel
theorem dX2_orphans_27 : decode cX2_orphans 27 = .ok (.getfield 26, 3) := by decide +kernel
theorem dX2_orphans_30 : decode cX2_orphans 30 = .ok (.aload_n 0, 1) := by decide +kernel
theorem dX2_orphans_31 : decode cX2_orphans 31 = .ok (.getfield 15, 3) := by decide +kernel
theorem dX2_orphans_34 : decode cX2_orphans 34 = .ok (.getfield 100, 3) := by decide +kernel
theorem dX2_orphans_37 : decode cX2_orphans 37 = .ok (.iload_n 2, 1) := by decide +kernel
theorem dX2_orphans_38 : decode cX2_orphans 38 = .ok (.iaload, 1) := by decide +kernel
theorem dX2_orphans_39 : decode cX2_orphans 39 = .ok (.invokestatic 94, 3) := by decide +kernel
theorem dX2_orphans_42 : decode cX2_orphans 42 = .ok (.ifCond .ne 9, 3) := by decide +kernel
theorem dX2_orphans_45 : decode cX2_orphans 45 = .ok (.iload_n 1, 1) := by decide +kernel
theorem dX2_orphans_46 : decode cX2_orphans 46 = .ok (.iconst 1, 1) := by decide +kernel
theorem dX2_orphans_47 : decode cX2_orphans 47 = .ok (.iload_n 2, 1) := by decide +kernel
theorem dX2_orphans_48 : decode cX2_orphans 48 = .ok (.ishl, 1) := by decide +kernel
theorem dX2_orphans_49 : decode cX2_orphans 49 = .ok (.ior, 1) := by decide +kernel
theorem dX2_orphans_50 : decode cX2_orphans 50 = .ok (.istore_n 1, 1) := by decide +kernel
theorem dX2_orphans_51 : decode cX2_orphans 51 = .ok (.iinc 2 1, 3) := by decide +kernel
theorem dX2_orphans_54 : decode cX2_orphans 54 = .ok (.goto (-50), 3) := by decide +kernel
theorem dX2_orphans_57 : decode cX2_orphans 57 = .ok (.iload_n 1, 1) := by decide +kernel
theorem dX2_orphans_58 : decode cX2_orphans 58 = .ok (.ireturn, 1) := by decide +kernel
def F_X2_orphans (i : Nat) (Z : Nat → Int → Int) (q : Nat) (X Y : Nat → Int → Int) (R : Nat → Int → Option Nat)  : Prop := (∀ i j, rI (X i j)) → (∀ i j, rL (Y i j)) → ((1 ≤ (1 : Int) ∧ (1 : Int) ≤ Z q 27) ∧ (0 : Int) = bS (csOr (rP Z q) (coX X i 1)) ((1 : Int)).toNat) ∧ (∀ (u : Int) (k : Int), rI u → rI k → ((1 ≤ k ∧ k ≤ Z q 27) ∧ u = bS (csOr (rP Z q) (coX X i 1)) (k).toNat) → ((((X (i) 2) < k) → (u = bS (csOr (rP Z q) (coX X i 1)) (Z q 27).toNat)) ∧ ((¬ ((X (i) 2) < k)) → ((((decide (0 ≤ k ∧ k < 15) && decide (¬ zAnd (zShr (X (i + 47) 5) (k)) 1 = 0)) = false) → ((rI (k + 1)) ∧ ((1 ≤ (k + 1) ∧ (k + 1) ≤ Z q 27) ∧ u = bS (csOr (rP Z q) (coX X i 1)) ((k + 1)).toNat) ∧ (((20 - (k + 1)).toNat) < ((20 - (k)).toNat)))) ∧ (((decide (0 ≤ k ∧ k < 15) && decide (¬ zAnd (zShr (X (i + 47) 5) (k)) 1 = 0)) = true) → ((0 ≤ k ∧ k < 15) ∧ ((((decide (0 ≤ X (i + 9) (k) ∧ X (i + 9) (k) < 15) && decide (¬ zAnd (zShr (X (i + 47) 5) (X (i + 9) (k))) 1 = 0)) = true) → ((rI (k + 1)) ∧ ((1 ≤ (k + 1) ∧ (k + 1) ≤ Z q 27) ∧ u = bS (csOr (rP Z q) (coX X i 1)) ((k + 1)).toNat) ∧ (((20 - (k + 1)).toNat) < ((20 - (k)).toNat)))) ∧ (((decide (0 ≤ X (i + 9) (k) ∧ X (i + 9) (k) < 15) && decide (¬ zAnd (zShr (X (i + 47) 5) (X (i + 9) (k))) 1 = 0)) = false) → ((rI (k + 1)) ∧ ((1 ≤ (k + 1) ∧ (k + 1) ≤ Z q 27) ∧ (zOr (u) (zShl (1) (k))) = bS (csOr (rP Z q) (coX X i 1)) ((k + 1)).toNat) ∧ (((20 - (k + 1)).toNat) < ((20 - (k)).toNat)))))))))))
set_option maxHeartbeats 4000000 in
set_option maxRecDepth 100000 in
theorem w_X2_orphans {l : Launch} {D : va_G} {cy : Nat → ClassId} {bs N : Nat} {sa : Nat → Nat} {kd len : Nat → Nat} {X Y : Nat → Int → Int} {R : Nat → Int → Option Nat} {i : Nat} {Z : Nat → Int → Int} {q : Nat} (hC : zCourse N kd len R i)  (hF : F_X2_orphans i Z q X Y R ) : Met l yX2_orphans (.code yX2_orphans cX2_orphans 3 (some .int) :: zTB) (zRm 1 21) (zPc D cy bs sa N kd len X Y R [.ref (bs + (i + 47))]) (zQi D cy bs N kd len (fun r st => r = bS (csOr (rP Z q) (coX X i 1)) (Z q 27).toNat ∧ st = (X, Y, R))) 0 0 (zA bs) := by
  refine zstart (by decide) (Nat.le_of_ble_eq_true rfl) ?_
  intro p e s m args below meth c ls C hE hH hr hlk hnm hl hargs
  have hF := hF hH.2.2.1 hH.2.2.2
  have hS : va_S (zA bs) s.heap s.heap [] := va_S.rf
  have hl : lv_has ls 3 [(0, .ref (bs + (i + 47)))] := hl
  refine zd_iconst C dX2_orphans_0 ?_
  refine lv_istore_n (lv' := [(1, .int (zI (0))), (0, .ref (bs + (i + 47)))]) C.1 C.2.1 dX2_orphans_1 rfl hl (by decide) rfl (fun ls hl => ?_)
  refine zd_iconst C dX2_orphans_2 ?_
  refine lv_istore_n (lv' := [(2, .int (zI (1))), (1, .int (zI (0))), (0, .ref (bs + (i + 47)))]) C.1 C.2.1 dX2_orphans_3 rfl hl (by decide) rfl (fun ls hl => ?_)
  obtain ⟨hI1, hF⟩ := hF
  have L1 : ∀ (fu : Nat) (u : Int) (k : Int), rI u → rI k → ((1 ≤ k ∧ k ≤ Z q 27) ∧ u = bS (csOr (rP Z q) (coX X i 1)) (k).toNat) → ((20 - (k)).toNat) < fu → ∀ (H : Heap) (locs : List Loc) (ls : Array Slot), zH D cy bs N kd len X Y R H → va_S (zA bs) s.heap H locs → lv_has ls 3 [(1, .int (zI (u))), (2, .int (zI (k))), (0, .ref (bs + (i + 47)))] → W p l e (zRm 1 21) s m args below meth c H locs 0 0 (MQ below (zQi D cy bs N kd len (fun r st => r = bS (csOr (rP Z q) (coX X i 1)) (Z q 27).toNat ∧ st = (X, Y, R))) args s 0 0 (zA bs)) (F0 m 4 ls []) := by
    intro fu
    induction fu with
    | zero => intro u k _ _ _ hmu; exact absurd hmu (Nat.not_lt_zero _)
    | succ fu ih1 =>
      intro u k hu hk hI hmu1 H locs ls hH hS hl
      have hF := hF u k hu hk  hI
      refine lv_iload_n C.1 C.2.1 dX2_orphans_4 rfl (lv_at hl 1 rfl) ?_
      refine lv_aload_n C.1 C.2.1 dX2_orphans_5 rfl (lv_at hl 2 rfl) ?_
      refine zg2_0 C hH (zCo_n hC) (zCo_k hC) q_448 (zCo_r0 hC) dX2_orphans_6 ?_
      refine zg1_2 C hH (zChart_n0 hC.1) (zChart_k0 hC.1) q_397 dX2_orphans_9 ?_
      refine zd_icmp_gt C hk (hH.2.2.1 _ _) 57 dX2_orphans_12 (by decide) (fun c2 => ?_) (fun c2 => ?_)
      · have hF := hF.1 c2
        refine lv_iload_n C.1 C.2.1 dX2_orphans_57 rfl (lv_at hl 0 rfl) ?_
        exact zd_iret C hr hlk hH hS hu (⟨hF, rfl⟩) dX2_orphans_58
      · have hF := hF.2 c2
        refine lv_aload_n C.1 C.2.1 dX2_orphans_15 rfl (lv_at hl 2 rfl) ?_
        refine zg2_5 C hH (zCo_n hC) (zCo_k hC) q_454 dX2_orphans_16 ?_
        refine lv_iload_n C.1 C.2.1 dX2_orphans_19 rfl (lv_at hl 1 rfl) ?_
        refine zgoi (zrunSN (As := [.int (zI (X (i + 47) 5)), .int (zI (k))]) (rest := []) C hE hH hS hl.1 (c_X10_isIn (l := l)  (X (i + 47) 5) (hH.2.2.1 _ _) (k) hk) k_RX2_94 ⟨Nat.le_of_ble_eq_true rfl, Nat.le_of_ble_eq_true rfl⟩ rfl (Nat.le_of_ble_eq_true rfl) dX2_orphans_20 ⟨Nat.zero_le _, Nat.zero_le _⟩) hS (fun rq Xq Yq Rq H locs hrq hq hH hS => ?_)
        obtain ⟨h91, h92⟩ := hq
        have h93 : Xq = X := congrArg (fun z => z.1) h92
        have h94 : Yq = Y := congrArg (fun z => z.2.1) h92
        have h95 : Rq = R := congrArg (fun z => z.2.2) h92
        rw [h93, h94, h95] at hH
        subst h91
        refine zd_ifB_eq C 51 dX2_orphans_23 (by decide) (fun c3 => ?_) (fun c3 => ?_)
        · have hF := hF.1 c3
          refine zd_iinc (k := 1) (lv' := [(2, .int (zI (k + 1))), (1, .int (zI (u))), (0, .ref (bs + (i + 47)))]) C hl rfl dX2_orphans_51 (by decide) rfl (fun ls hl => ?_)
          refine lv_goto (tgt := 4) C.1 C.2.1 dX2_orphans_54 (by decide) ?_
          obtain ⟨o4, hF⟩ := hF
          exact ih1 (u) (k + 1) hu o4 hF.1 (Nat.lt_of_lt_of_le hF.2 (Nat.le_of_lt_succ hmu1)) _ _ _ hH hS (lv_sub hl [1, 0, 2] rfl)
        · have hF := hF.2 c3
          refine lv_aload_n C.1 C.2.1 dX2_orphans_26 rfl (lv_at hl 2 rfl) ?_
          refine zg2_5 C hH (zCo_n hC) (zCo_k hC) q_454 dX2_orphans_27 ?_
          refine lv_aload_n C.1 C.2.1 dX2_orphans_30 rfl (lv_at hl 2 rfl) ?_
          refine zg2_0 C hH (zCo_n hC) (zCo_k hC) q_448 (zCo_r0 hC) dX2_orphans_31 ?_
          refine zg1_4 C hH (zChart_n0 hC.1) (zChart_k0 hC.1) q_403 (zChart_r9 hC.1) dX2_orphans_34 ?_
          refine lv_iload_n C.1 C.2.1 dX2_orphans_37 rfl (lv_at hl 1 rfl) ?_
          obtain ⟨o5, hF⟩ := hF
          refine zd_iald C hH (zChart_n9 hC.1) (zChart_k9 hC.1) o5.1 (by rw [zChart_l9 hC.1]; exact o5.2) (by rw [zChart_l9 hC.1]; decide) dX2_orphans_38 ?_
          refine zgoi (zrunSN (As := [.int (zI (X (i + 47) 5)), .int (zI (X (i + 9) (k)))]) (rest := []) C hE hH hS hl.1 (c_X10_isIn (l := l)  (X (i + 47) 5) (hH.2.2.1 _ _) (X (i + 9) (k)) (hH.2.2.1 _ _)) k_RX2_94 ⟨Nat.le_of_ble_eq_true rfl, Nat.le_of_ble_eq_true rfl⟩ rfl (Nat.le_of_ble_eq_true rfl) dX2_orphans_39 ⟨Nat.zero_le _, Nat.zero_le _⟩) hS (fun rq Xq Yq Rq H locs hrq hq hH hS => ?_)
          obtain ⟨h91, h92⟩ := hq
          have h93 : Xq = X := congrArg (fun z => z.1) h92
          have h94 : Yq = Y := congrArg (fun z => z.2.1) h92
          have h95 : Rq = R := congrArg (fun z => z.2.2) h92
          rw [h93, h94, h95] at hH
          subst h91
          refine zd_ifB_ne C 51 dX2_orphans_42 (by decide) (fun c6 => ?_) (fun c6 => ?_)
          · have hF := hF.1 c6
            refine zd_iinc (k := 1) (lv' := [(2, .int (zI (k + 1))), (1, .int (zI (u))), (0, .ref (bs + (i + 47)))]) C hl rfl dX2_orphans_51 (by decide) rfl (fun ls hl => ?_)
            refine lv_goto (tgt := 4) C.1 C.2.1 dX2_orphans_54 (by decide) ?_
            obtain ⟨o7, hF⟩ := hF
            exact ih1 (u) (k + 1) hu o7 hF.1 (Nat.lt_of_lt_of_le hF.2 (Nat.le_of_lt_succ hmu1)) _ _ _ hH hS (lv_sub hl [1, 0, 2] rfl)
          · have hF := hF.2 c6
            refine lv_iload_n C.1 C.2.1 dX2_orphans_45 rfl (lv_at hl 0 rfl) ?_
            refine zd_iconst C dX2_orphans_46 ?_
            refine lv_iload_n C.1 C.2.1 dX2_orphans_47 rfl (lv_at hl 1 rfl) ?_
            refine zd_ishl C dX2_orphans_48 ?_
            refine zd_ior C dX2_orphans_49 ?_
            refine lv_istore_n (lv' := [(1, .int (zI (zOr (u) (zShl (1) (k))))), (2, .int (zI (k))), (0, .ref (bs + (i + 47)))]) C.1 C.2.1 dX2_orphans_50 rfl hl (by decide) rfl (fun ls hl => ?_)
            refine zd_iinc (k := 1) (lv' := [(2, .int (zI (k + 1))), (1, .int (zI (zOr (u) (zShl (1) (k))))), (0, .ref (bs + (i + 47)))]) C hl rfl dX2_orphans_51 (by decide) rfl (fun ls hl => ?_)
            refine lv_goto (tgt := 4) C.1 C.2.1 dX2_orphans_54 (by decide) ?_
            obtain ⟨o8, hF⟩ := hF
            exact ih1 (zOr (u) (zShl (1) (k))) (k + 1) (zI_rg _) o8 hF.1 (Nat.lt_of_lt_of_le hF.2 (Nat.le_of_lt_succ hmu1)) _ _ _ hH hS (lv_sub hl [1, 0, 2] rfl)
  exact L1 (((20 - ((1 : Int))).toNat) + 1) ((0 : Int)) ((1 : Int)) (by decide) (by decide) hI1 (Nat.lt_succ_self _) _ _ _ hH hS (lv_sub hl [1, 0, 2] rfl)
theorem v_X2_orphans {X Y : Nat → Int → Int} {R : Nat → Int → Option Nat} {i : Nat} {Z : Nat → Int → Int} {q : Nat}  (hp : cA Z q X Y R i) : F_X2_orphans i Z q X Y R  := by
  unfold F_X2_orphans
  intro hX hY
  have hq := hp
  obtain ⟨l27, r27, e27⟩ := cA_l hq
  refine ⟨?_, ?_⟩
  · exact ⟨by omega, (bS_1 rfl).symm⟩
  intro u k
  intro _
  intro _
  intro h1
  obtain ⟨⟨k1, k2⟩, rfl⟩ := h1
  obtain ⟨kn, rfl⟩ := nat_of (show 0 ≤ k by omega)
  refine ⟨?_, ?_⟩
  · intro c1
    rw [show Z q 27 = kn by omega]
  intro c2
  have kl : (kn : Int) < Z q 27 := by omega
  have es : ((kn : Int) + 1).toNat = kn + 1 := by omega
  have e0 : ((kn : Nat) : Int).toNat = kn := by omega
  have hx := cA_p hq (show 1 ≤ kn by omega) kl
  rw [hx.1, isIn_has (by omega) (by omega), isIn_has (by omega) (by omega)]
  have x1 : coX X i 1 = X (i + 47) 5 := rfl
  refine ⟨?_, ?_⟩
  · intro c3
    refine ⟨?_, ?_⟩
    · first | omega | exact ⟨by omega, by omega⟩ | decide | assumption | exact ⟨by omega, by omega, by omega⟩ | exact ⟨by decide, by decide⟩
    refine ⟨?_, ?_⟩
    · exact ⟨by omega, by rw [es, e0, bS_n (by unfold csOr; rw [x1, c3, Bool.false_and, Bool.and_false])]⟩
    first | omega | exact ⟨by omega, by omega⟩ | decide | assumption | exact ⟨by omega, by omega, by omega⟩ | exact ⟨by decide, by decide⟩
  intro c4
  refine ⟨?_, ?_⟩
  · omega
  refine ⟨?_, ?_⟩
  · intro c5
    refine ⟨?_, ?_⟩
    · first | omega | exact ⟨by omega, by omega⟩ | decide | assumption | exact ⟨by omega, by omega, by omega⟩ | exact ⟨by decide, by decide⟩
    refine ⟨?_, ?_⟩
    · exact ⟨by omega, by rw [es, e0, bS_n (by unfold csOr; rw [x1, c5, Bool.not_true, Bool.and_false, Bool.and_false])]⟩
    first | omega | exact ⟨by omega, by omega⟩ | decide | assumption | exact ⟨by omega, by omega, by omega⟩ | exact ⟨by decide, by decide⟩
  intro c6
  refine ⟨?_, ?_⟩
  · first | omega | exact ⟨by omega, by omega⟩ | decide | assumption | exact ⟨by omega, by omega, by omega⟩ | exact ⟨by decide, by decide⟩
  refine ⟨?_, ?_⟩
  · exact ⟨by omega, by rw [es, e0, bS_y (by unfold csOr; rw [x1, c4, c6, decide_eq_true (show 1 ≤ kn by omega)]; rfl)]⟩
  first | omega | exact ⟨by omega, by omega⟩ | decide | assumption | exact ⟨by omega, by omega, by omega⟩ | exact ⟨by decide, by decide⟩
theorem c_X2_orphans {l : Launch} {D : va_G} {cy : Nat → ClassId} {bs N : Nat} {sa : Nat → Nat} {kd len : Nat → Nat} {X Y : Nat → Int → Int} {R : Nat → Int → Option Nat} {i : Nat} {Z : Nat → Int → Int} {q : Nat} (hC : zCourse N kd len R i)  (hp : cA Z q X Y R i) : Met l yX2_orphans (.code yX2_orphans cX2_orphans 3 (some .int) :: zTB) (zRm 1 21) (zPc D cy bs sa N kd len X Y R [.ref (bs + (i + 47))]) (zQi D cy bs N kd len (fun r st => r = bS (csOr (rP Z q) (coX X i 1)) (Z q 27).toNat ∧ st = (X, Y, R))) 0 0 (zA bs) := w_X2_orphans hC  (v_X2_orphans  hp)
theorem htF_p {P : Nat → Nat} {h : Int} {k : Nat} (hp : P k < k) (hk : k < 15) (h1 : htF P h k = true) : htF P h (P k) = true := by
  unfold htF at h1 ⊢
  rw [decide_eq_false (show ¬ k = 0 by omega), Bool.false_or, decide_eq_true_eq, ← wy_s hp hk, and_or (by omega)] at h1
  rw [decide_eq_true h1.1, Bool.or_true]
theorem ht_e {P : Nat → Nat} {G : Nat → Int} {h : Int} {w : Nat → Bool} {n : Nat} (hw : ∀ k, k < n → w k = htF P h k) : ∀ m, m ≤ n → aHv G w (fun x y : Nat => decide (x < y)) m = csHt P G h m
  | 0, _ => rfl
  | m + 1, hm => by
    have ih := ht_e (G := G) hw m (by omega)
    have b := csHt_b (P := P) (G := G) (h := h) m
    by_cases g : m = 0
    · subst g
      rw [aHv_1]
      show (0 : Nat) = if _ then 0 else 0
      split <;> rfl
    · show (if (w m && (decide (G (aHv G w _ m) < G m) || (decide (G m = G (aHv G w _ m)) && decide (m < aHv G w _ m)))) = true then m else aHv G w _ m) = if zAnd (wyP P m) (zXor h (-1)) = 0 ∧ G (csHt P G h m) < G m then m else csHt P G h m
      rw [ih, hw m (by omega), decide_eq_false (show ¬ m < csHt P G h m by omega), Bool.and_false, Bool.or_false]
      unfold htF
      rw [decide_eq_false g, Bool.false_or]
      by_cases c : zAnd (wyP P m) (zXor h (-1)) = 0 ∧ G (csHt P G h m) < G m
      · rw [if_pos c, decide_eq_true c.1, decide_eq_true c.2]
        rfl
      · rw [if_neg c, if_neg (fun z => c (by rw [Bool.and_eq_true, decide_eq_true_eq, decide_eq_true_eq] at z; exact z))]
abbrev cX2_headTip : ByteArray := prog_4_method_9_code
def yX2_headTip : MethodName := ⟨RX2, "headTip", "()I"⟩
theorem dX2_headTip_0 : decode cX2_headTip 0 = .ok (.iconst 1, 1) := by decide +kernel
theorem dX2_headTip_1 : decode cX2_headTip 1 = .ok (.istore_n 1, 1) := by decide +kernel
theorem dX2_headTip_2 : decode cX2_headTip 2 = .ok (.iconst 1, 1) := by decide +kernel
theorem dX2_headTip_3 : decode cX2_headTip 3 = .ok (.istore_n 2, 1) := by decide +kernel
theorem dX2_headTip_4 : decode cX2_headTip 4 = .ok (.iload_n 2, 1) := by decide +kernel
theorem dX2_headTip_5 : decode cX2_headTip 5 = .ok (.aload_n 0, 1) := by decide +kernel
theorem dX2_headTip_6 : decode cX2_headTip 6 = .ok (.getfield 15, 3) := by decide +kernel
theorem dX2_headTip_9 : decode cX2_headTip 9 = .ok (.getfield 91, 3) := by decide +kernel
theorem dX2_headTip_12 : decode cX2_headTip 12 = .ok (.if_icmp .gt 34, 3) := by decide +kernel
theorem dX2_headTip_15 : decode cX2_headTip 15 = .ok (.aload_n 0, 1) := by decide +kernel
theorem dX2_headTip_16 : decode cX2_headTip 16 = .ok (.getfield 15, 3) := by decide +kernel
theorem dX2_headTip_19 : decode cX2_headTip 19 = .ok (.getfield 103, 3) := by decide +kernel
theorem dX2_headTip_22 : decode cX2_headTip 22 = .ok (.iload_n 2, 1) := by decide +kernel
theorem dX2_headTip_23 : decode cX2_headTip 23 = .ok (.iaload, 1) := by decide +kernel
theorem dX2_headTip_24 : decode cX2_headTip 24 = .ok (.aload_n 0, 1) := by decide +kernel
theorem dX2_headTip_25 : decode cX2_headTip 25 = .ok (.getfield 26, 3) := by decide +kernel
theorem dX2_headTip_28 : decode cX2_headTip 28 = .ok (.iconst (-1), 1) := by decide +kernel
theorem dX2_headTip_29 : decode cX2_headTip 29 = .ok (.ixor, 1) := by decide +kernel
theorem dX2_headTip_30 : decode cX2_headTip 30 = .ok (.iand, 1) := by decide +kernel
theorem dX2_headTip_31 : decode cX2_headTip 31 = .ok (.ifCond .ne 9, 3) := by decide +kernel
theorem dX2_headTip_34 : decode cX2_headTip 34 = .ok (.iload_n 1, 1) := by decide +kernel
theorem dX2_headTip_35 : decode cX2_headTip 35 = .ok (.iconst 1, 1) := by decide +kernel
theorem dX2_headTip_36 : decode cX2_headTip 36 = .ok (.iload_n 2, 1) := by decide +kernel
theorem dX2_headTip_37 : decode cX2_headTip 37 = .ok (.ishl, 1) := by decide +kernel
theorem dX2_headTip_38 : decode cX2_headTip 38 = .ok (.ior, 1) := by decide +kernel
theorem dX2_headTip_39 : decode cX2_headTip 39 = .ok (.istore_n 1, 1) := by decide +kernel
theorem dX2_headTip_40 : decode cX2_headTip 40 = .ok (.iinc 2 1, 3) := by decide +kernel
theorem dX2_headTip_43 : decode cX2_headTip 43 = .ok (.goto (-39), 3) := by decide +kernel
theorem dX2_headTip_46 : decode cX2_headTip 46 = .ok (.aload_n 0, 1) := by decide +kernel
theorem dX2_headTip_47 : decode cX2_headTip 47 = .ok (.getfield 15, 3) := by decide +kernel
theorem dX2_headTip_50 : decode cX2_headTip 50 = .ok (.iload_n 1, 1) := by decide +kernel
theorem dX2_headTip_51 : decode cX2_headTip 51 = .ok (.iconst 0, 1) := by decide +kernel
theorem dX2_headTip_52 : decode cX2_headTip 52 = .ok (.getstatic 78, 3) := by decide +kernel
theorem dX2_headTip_55 : decode cX2_headTip 55 = .ok (.invokevirtual 81, 3) := by decide +kernel
theorem dX2_headTip_58 : decode cX2_headTip 58 = .ok (.ireturn, 1) := by decide +kernel
theorem q_980 : Cond.methodLink RX2 81 yX1_choose ∈ zTB := zmem 980 (by decide +kernel) rfl
theorem k_RX2_81 : zLv RX2 81 RX1 yX1_choose cX1_choose 4 (some .int) 3 := ⟨⟨q_980, q_981, q_982, q_135, q_983⟩, rfl, ⟨by decide, by decide⟩, by decide +kernel⟩
def F_X2_headTip (i : Nat) (Z : Nat → Int → Int) (q : Nat) (X Y : Nat → Int → Int) (R : Nat → Int → Option Nat)  : Prop := (∀ i j, rI (X i j)) → (∀ i j, rL (Y i j)) → ((1 ≤ (1 : Int) ∧ (1 : Int) ≤ Z q 27) ∧ (1 : Int) = bS (htF (rP Z q) (coX X i 1)) ((1 : Int)).toNat) ∧ (∀ (u : Int) (k : Int), rI u → rI k → ((1 ≤ k ∧ k ≤ Z q 27) ∧ u = bS (htF (rP Z q) (coX X i 1)) (k).toNat) → ((((X (i) 2) < k) → ((cA Z q X Y R i ∧ clF Z q (u)) ∧ (∀ r6 : Int, rI r6 → ∀ X4 : Nat → Int → Int, (∀ i j, rI (X4 i j)) → ∀ Y5 : Nat → Int → Int, (∀ i j, rL (Y5 i j)) → (r6 = ((sTip ((0 : Int)) (rP Z q) (rW Z q) (rG Z q) (fun e => mHas (u) e) (fun x y : Nat => decide (x < y)) (Z q 27).toNat : Nat) : Int) ∧ fvK X (X4) Y (Y5) i) → (r6 = ((csHt (rP Z q) (rG Z q) (coX X i 1) (Z q 27).toNat : Nat) : Int) ∧ fvK X (X4) Y (Y5) i)))) ∧ ((¬ ((X (i) 2) < k)) → ((0 ≤ k ∧ k < 15) ∧ (((¬ (zAnd (X (i + 10) (k)) (zXor (X (i + 47) 5) ((-1)))) = 0) → ((rI (k + 1)) ∧ ((1 ≤ (k + 1) ∧ (k + 1) ≤ Z q 27) ∧ u = bS (htF (rP Z q) (coX X i 1)) ((k + 1)).toNat) ∧ (((20 - (k + 1)).toNat) < ((20 - (k)).toNat)))) ∧ ((¬ (¬ (zAnd (X (i + 10) (k)) (zXor (X (i + 47) 5) ((-1)))) = 0)) → ((rI (k + 1)) ∧ ((1 ≤ (k + 1) ∧ (k + 1) ≤ Z q 27) ∧ (zOr (u) (zShl (1) (k))) = bS (htF (rP Z q) (coX X i 1)) ((k + 1)).toNat) ∧ (((20 - (k + 1)).toNat) < ((20 - (k)).toNat)))))))))
set_option maxHeartbeats 4000000 in
set_option maxRecDepth 100000 in
theorem w_X2_headTip {l : Launch} {D : va_G} {cy : Nat → ClassId} {bs N : Nat} {sa : Nat → Nat} {kd len : Nat → Nat} {X Y : Nat → Int → Int} {R : Nat → Int → Option Nat} {i : Nat} {Z : Nat → Int → Int} {q : Nat} (hC : zCourse N kd len R i)  (hF : F_X2_headTip i Z q X Y R ) : Met l yX2_headTip (.code yX2_headTip cX2_headTip 3 (some .int) :: zTB) (zRm 2 48) (zPc D cy bs sa N kd len X Y R [.ref (bs + (i + 47))]) (zQi D cy bs N kd len (fun r st => st.2.2 = R ∧ (r = ((csHt (rP Z q) (rG Z q) (coX X i 1) (Z q 27).toNat : Nat) : Int) ∧ fvK X (st.1) Y (st.2.1) i))) 0 0 (zA bs) := by
  refine zstart (by decide) (Nat.le_of_ble_eq_true rfl) ?_
  intro p e s m args below meth c ls C hE hH hr hlk hnm hl hargs
  have hF := hF hH.2.2.1 hH.2.2.2
  have hS : va_S (zA bs) s.heap s.heap [] := va_S.rf
  have hl : lv_has ls 3 [(0, .ref (bs + (i + 47)))] := hl
  refine zd_iconst C dX2_headTip_0 ?_
  refine lv_istore_n (lv' := [(1, .int (zI (1))), (0, .ref (bs + (i + 47)))]) C.1 C.2.1 dX2_headTip_1 rfl hl (by decide) rfl (fun ls hl => ?_)
  refine zd_iconst C dX2_headTip_2 ?_
  refine lv_istore_n (lv' := [(2, .int (zI (1))), (1, .int (zI (1))), (0, .ref (bs + (i + 47)))]) C.1 C.2.1 dX2_headTip_3 rfl hl (by decide) rfl (fun ls hl => ?_)
  obtain ⟨hI1, hF⟩ := hF
  have L1 : ∀ (fu : Nat) (u : Int) (k : Int), rI u → rI k → ((1 ≤ k ∧ k ≤ Z q 27) ∧ u = bS (htF (rP Z q) (coX X i 1)) (k).toNat) → ((20 - (k)).toNat) < fu → ∀ (H : Heap) (locs : List Loc) (ls : Array Slot), zH D cy bs N kd len X Y R H → va_S (zA bs) s.heap H locs → lv_has ls 3 [(1, .int (zI (u))), (2, .int (zI (k))), (0, .ref (bs + (i + 47)))] → W p l e (zRm 2 48) s m args below meth c H locs 0 0 (MQ below (zQi D cy bs N kd len (fun r st => st.2.2 = R ∧ (r = ((csHt (rP Z q) (rG Z q) (coX X i 1) (Z q 27).toNat : Nat) : Int) ∧ fvK X (st.1) Y (st.2.1) i))) args s 0 0 (zA bs)) (F0 m 4 ls []) := by
    intro fu
    induction fu with
    | zero => intro u k _ _ _ hmu; exact absurd hmu (Nat.not_lt_zero _)
    | succ fu ih1 =>
      intro u k hu hk hI hmu1 H locs ls hH hS hl
      have hF := hF u k hu hk  hI
      refine lv_iload_n C.1 C.2.1 dX2_headTip_4 rfl (lv_at hl 1 rfl) ?_
      refine lv_aload_n C.1 C.2.1 dX2_headTip_5 rfl (lv_at hl 2 rfl) ?_
      refine zg2_0 C hH (zCo_n hC) (zCo_k hC) q_448 (zCo_r0 hC) dX2_headTip_6 ?_
      refine zg1_2 C hH (zChart_n0 hC.1) (zChart_k0 hC.1) q_397 dX2_headTip_9 ?_
      refine zd_icmp_gt C hk (hH.2.2.1 _ _) 46 dX2_headTip_12 (by decide) (fun c2 => ?_) (fun c2 => ?_)
      · have hF := hF.1 c2
        refine lv_aload_n C.1 C.2.1 dX2_headTip_46 rfl (lv_at hl 2 rfl) ?_
        refine zg2_0 C hH (zCo_n hC) (zCo_k hC) q_448 (zCo_r0 hC) dX2_headTip_47 ?_
        refine lv_iload_n C.1 C.2.1 dX2_headTip_50 rfl (lv_at hl 0 rfl) ?_
        refine zd_iconst C dX2_headTip_51 ?_
        refine zd_getsN C hE hS (own := "WorkChains$Course") (ix := 78) (C9 := "WorkChains") (n9 := "BY_NUMBER") (host := "WorkChains") (by decide +kernel) hE.2.2.1.1 dX2_headTip_52 ?_
        obtain ⟨o3, hF⟩ := hF
        refine zgoi (zrunV (As := [.int (zI (u)), .int (zI (0)), .ref (sa 0)]) (rest := []) C hE hH hS hl.1 (c_X1_chooseS (l := l) hC.1 (u) hu (0) (by decide) o3) k_RX2_81 ⟨Nat.le_of_ble_eq_true rfl, Nat.le_of_ble_eq_true rfl⟩ (zChart_n0 hC.1) (zChart_k0 hC.1) rfl rfl rfl (Nat.le_of_ble_eq_true rfl) dX2_headTip_55 ⟨Nat.zero_le _, Nat.zero_le _⟩) hS (fun r6 X4 Y5 Rq H locs hrq hq hH hS => ?_)
        obtain ⟨h9R, hq⟩ := hq
        dsimp only at h9R
        rw [h9R] at hH
        have hr6 := hrq
        have hF := hF r6 hrq X4 hH.2.2.1 Y5 hH.2.2.2 hq
        exact zd_iret C hr hlk hH hS hr6 (⟨rfl, hF⟩) dX2_headTip_58
      · have hF := hF.2 c2
        refine lv_aload_n C.1 C.2.1 dX2_headTip_15 rfl (lv_at hl 2 rfl) ?_
        refine zg2_0 C hH (zCo_n hC) (zCo_k hC) q_448 (zCo_r0 hC) dX2_headTip_16 ?_
        refine zg1_5 C hH (zChart_n0 hC.1) (zChart_k0 hC.1) q_405 (zChart_r10 hC.1) dX2_headTip_19 ?_
        refine lv_iload_n C.1 C.2.1 dX2_headTip_22 rfl (lv_at hl 1 rfl) ?_
        obtain ⟨o7, hF⟩ := hF
        refine zd_iald C hH (zChart_n10 hC.1) (zChart_k10 hC.1) o7.1 (by rw [zChart_l10 hC.1]; exact o7.2) (by rw [zChart_l10 hC.1]; decide) dX2_headTip_23 ?_
        refine lv_aload_n C.1 C.2.1 dX2_headTip_24 rfl (lv_at hl 2 rfl) ?_
        refine zg2_5 C hH (zCo_n hC) (zCo_k hC) q_454 dX2_headTip_25 ?_
        refine zd_iconst C dX2_headTip_28 ?_
        refine zd_ixor C dX2_headTip_29 ?_
        refine zd_iand C dX2_headTip_30 ?_
        refine zd_if_ne C (zI_rg _) 40 dX2_headTip_31 (by decide) (fun c8 => ?_) (fun c8 => ?_)
        · have hF := hF.1 c8
          refine zd_iinc (k := 1) (lv' := [(2, .int (zI (k + 1))), (1, .int (zI (u))), (0, .ref (bs + (i + 47)))]) C hl rfl dX2_headTip_40 (by decide) rfl (fun ls hl => ?_)
          refine lv_goto (tgt := 4) C.1 C.2.1 dX2_headTip_43 (by decide) ?_
          obtain ⟨o9, hF⟩ := hF
          exact ih1 (u) (k + 1) hu o9 hF.1 (Nat.lt_of_lt_of_le hF.2 (Nat.le_of_lt_succ hmu1)) _ _ _ hH hS (lv_sub hl [1, 0, 2] rfl)
        · have hF := hF.2 c8
          refine lv_iload_n C.1 C.2.1 dX2_headTip_34 rfl (lv_at hl 0 rfl) ?_
          refine zd_iconst C dX2_headTip_35 ?_
          refine lv_iload_n C.1 C.2.1 dX2_headTip_36 rfl (lv_at hl 1 rfl) ?_
          refine zd_ishl C dX2_headTip_37 ?_
          refine zd_ior C dX2_headTip_38 ?_
          refine lv_istore_n (lv' := [(1, .int (zI (zOr (u) (zShl (1) (k))))), (2, .int (zI (k))), (0, .ref (bs + (i + 47)))]) C.1 C.2.1 dX2_headTip_39 rfl hl (by decide) rfl (fun ls hl => ?_)
          refine zd_iinc (k := 1) (lv' := [(2, .int (zI (k + 1))), (1, .int (zI (zOr (u) (zShl (1) (k))))), (0, .ref (bs + (i + 47)))]) C hl rfl dX2_headTip_40 (by decide) rfl (fun ls hl => ?_)
          refine lv_goto (tgt := 4) C.1 C.2.1 dX2_headTip_43 (by decide) ?_
          obtain ⟨o10, hF⟩ := hF
          exact ih1 (zOr (u) (zShl (1) (k))) (k + 1) (zI_rg _) o10 hF.1 (Nat.lt_of_lt_of_le hF.2 (Nat.le_of_lt_succ hmu1)) _ _ _ hH hS (lv_sub hl [1, 0, 2] rfl)
  exact L1 (((20 - ((1 : Int))).toNat) + 1) ((1 : Int)) ((1 : Int)) (by decide) (by decide) hI1 (Nat.lt_succ_self _) _ _ _ hH hS (lv_sub hl [1, 0, 2] rfl)
theorem v_X2_headTip {X Y : Nat → Int → Int} {R : Nat → Int → Option Nat} {i : Nat} {Z : Nat → Int → Int} {q : Nat}  (hp : cA Z q X Y R i) : F_X2_headTip i Z q X Y R  := by
  unfold F_X2_headTip
  intro hX hY
  have hq := hp
  obtain ⟨l27, r27, e27⟩ := cA_l hq
  refine ⟨?_, ?_⟩
  · exact ⟨by omega, by show (1 : Int) = if true then zOr 0 (zShl 1 0) else 0; decide +kernel⟩
  intro u k
  intro _
  intro _
  intro h1
  obtain ⟨⟨k1, k2⟩, rfl⟩ := h1
  obtain ⟨kn, rfl⟩ := nat_of (show 0 ≤ k by omega)
  have e0 : ((kn : Nat) : Int).toNat = kn := by omega
  refine ⟨?_, ?_⟩
  · intro c1
    have hk : kn = (Z q 27).toNat := by omega
    rw [e0, hk]
    refine ⟨?_, ?_⟩
    · refine ⟨hq, by rw [show (0 : Int) = ((0 : Nat) : Int) from rfl, bS_has _ (by omega) (by omega)]; rfl, fun e h1 h2 h3 => ?_⟩
      rw [bS_has _ (by omega) (by omega)] at h3
      have hpk := vZ_P hq.1.1.1 h1 h2
      rw [bS_has _ (by omega) (by omega)]
      exact htF_p hpk (by omega) h3
    intro r6
    intro _
    intro X4
    intro rX4
    intro Y5
    intro rY5
    intro h2
    refine ⟨?_, h2.2⟩
    rw [h2.1]
    unfold sTip
    rw [if_pos rfl, ht_e (h := coX X i 1) (fun k hk => bS_has _ (by omega) hk) _ (Nat.le_refl _)]
  intro c2
  have kl : (kn : Int) < Z q 27 := by omega
  have es : ((kn : Int) + 1).toNat = kn + 1 := by omega
  have e0 : ((kn : Nat) : Int).toNat = kn := by omega
  rw [cA_w hq kl]
  have x1 : coX X i 1 = X (i + 47) 5 := rfl
  refine ⟨?_, ?_⟩
  · first | omega | exact ⟨by omega, by omega⟩ | decide | assumption | exact ⟨by omega, by omega, by omega⟩ | exact ⟨by decide, by decide⟩
  refine ⟨?_, ?_⟩
  · intro c3
    refine ⟨?_, ?_⟩
    · first | omega | exact ⟨by omega, by omega⟩ | decide | assumption | exact ⟨by omega, by omega, by omega⟩ | exact ⟨by decide, by decide⟩
    refine ⟨?_, ?_⟩
    · exact ⟨by omega, by rw [es, e0, bS_n (by unfold htF; rw [decide_eq_false (show ¬ kn = 0 by omega), x1, decide_eq_false c3]; rfl)]⟩
    first | omega | exact ⟨by omega, by omega⟩ | decide | assumption | exact ⟨by omega, by omega, by omega⟩ | exact ⟨by decide, by decide⟩
  intro c4
  refine ⟨?_, ?_⟩
  · first | omega | exact ⟨by omega, by omega⟩ | decide | assumption | exact ⟨by omega, by omega, by omega⟩ | exact ⟨by decide, by decide⟩
  refine ⟨?_, ?_⟩
  · exact ⟨by omega, by rw [es, e0, bS_y (by unfold htF; rw [x1, decide_eq_true (Classical.not_not.mp c4), Bool.or_true])]⟩
  first | omega | exact ⟨by omega, by omega⟩ | decide | assumption | exact ⟨by omega, by omega, by omega⟩ | exact ⟨by decide, by decide⟩
theorem c_X2_headTip {l : Launch} {D : va_G} {cy : Nat → ClassId} {bs N : Nat} {sa : Nat → Nat} {kd len : Nat → Nat} {X Y : Nat → Int → Int} {R : Nat → Int → Option Nat} {i : Nat} {Z : Nat → Int → Int} {q : Nat} (hC : zCourse N kd len R i)  (hp : cA Z q X Y R i) : Met l yX2_headTip (.code yX2_headTip cX2_headTip 3 (some .int) :: zTB) (zRm 2 48) (zPc D cy bs sa N kd len X Y R [.ref (bs + (i + 47))]) (zQi D cy bs N kd len (fun r st => st.2.2 = R ∧ (r = ((csHt (rP Z q) (rG Z q) (coX X i 1) (Z q 27).toNat : Nat) : Int) ∧ fvK X (st.1) Y (st.2.1) i))) 0 0 (zA bs) := w_X2_headTip hC  (v_X2_headTip  hp)
abbrev cX2_wanted : ByteArray := prog_4_method_10_code
def yX2_wanted : MethodName := ⟨RX2, "wanted", "()I"⟩
theorem dX2_wanted_0 : decode cX2_wanted 0 = .ok (.aload_n 0, 1) := by decide +kernel
theorem dX2_wanted_1 : decode cX2_wanted 1 = .ok (.getfield 15, 3) := by decide +kernel
theorem dX2_wanted_4 : decode cX2_wanted 4 = .ok (.getfield 103, 3) := by decide +kernel
theorem dX2_wanted_7 : decode cX2_wanted 7 = .ok (.aload_n 0, 1) := by decide +kernel
theorem dX2_wanted_8 : decode cX2_wanted 8 = .ok (.invokevirtual 117, 3) := by decide +kernel
theorem dX2_wanted_11 : decode cX2_wanted 11 = .ok (.iaload, 1) := by decide +kernel
theorem dX2_wanted_12 : decode cX2_wanted 12 = .ok (.aload_n 0, 1) := by decide +kernel
theorem dX2_wanted_13 : decode cX2_wanted 13 = .ok (.getfield 29, 3) := by decide +kernel
theorem dX2_wanted_16 : decode cX2_wanted 16 = .ok (.iconst (-1), 1) := by decide +kernel
theorem dX2_wanted_17 : decode cX2_wanted 17 = .ok (.ixor, 1) := by decide +kernel
theorem dX2_wanted_18 : decode cX2_wanted 18 = .ok (.iand, 1) := by decide +kernel
theorem dX2_wanted_19 : decode cX2_wanted 19 = .ok (.ireturn, 1) := by decide +kernel
theorem q_1027 : Cond.methodLink RX2 117 yX2_headTip ∈ zTB := zmem 1027 (by decide +kernel) rfl
theorem q_1020 : Cond.instanceMethod yX2_headTip ∈ zTB := zmem 1020 (by decide +kernel) rfl
theorem q_1021 : Cond.selects RX2 yX2_headTip yX2_headTip ∈ zTB := zmem 1021 (by decide +kernel) rfl
theorem q_137 : Cond.initialized RX2 ∈ zTB := zmem 137 (by decide +kernel) rfl
theorem q_1022 : Cond.code yX2_headTip cX2_headTip 3 (some .int) ∈ zTB := zmem 1022 (by decide +kernel) rfl
theorem k_RX2_117 : zLv RX2 117 RX2 yX2_headTip cX2_headTip 3 (some .int) 0 := ⟨⟨q_1027, q_1020, q_1021, q_137, q_1022⟩, rfl, ⟨by decide, by decide⟩, by decide +kernel⟩
def F_X2_wanted (i : Nat) (Z : Nat → Int → Int) (q : Nat) (X Y : Nat → Int → Int) (R : Nat → Int → Option Nat)  : Prop := (∀ i j, rI (X i j)) → (∀ i j, rL (Y i j)) → (cA Z q X Y R i) ∧ (∀ r4 : Int, rI r4 → ∀ X2 : Nat → Int → Int, (∀ i j, rI (X2 i j)) → ∀ Y3 : Nat → Int → Int, (∀ i j, rL (Y3 i j)) → (r4 = ((csHt (rP Z q) (rG Z q) (coX X i 1) (Z q 27).toNat : Nat) : Int) ∧ fvK X (X2) Y (Y3) i) → ((0 ≤ r4 ∧ r4 < 15) ∧ (zAnd (X2 (i + 10) (r4)) (zXor (X2 (i + 47) 6) ((-1))) = zAnd (wyP (rP Z q) (csHt (rP Z q) (rG Z q) (coX X i 1) (Z q 27).toNat)) (zXor (coX X i 2) (-1)) ∧ fvK X (X2) Y (Y3) i)))
set_option maxHeartbeats 4000000 in
set_option maxRecDepth 100000 in
theorem w_X2_wanted {l : Launch} {D : va_G} {cy : Nat → ClassId} {bs N : Nat} {sa : Nat → Nat} {kd len : Nat → Nat} {X Y : Nat → Int → Int} {R : Nat → Int → Option Nat} {i : Nat} {Z : Nat → Int → Int} {q : Nat} (hC : zCourse N kd len R i)  (hF : F_X2_wanted i Z q X Y R ) : Met l yX2_wanted (.code yX2_wanted cX2_wanted 1 (some .int) :: zTB) (zRm 3 70) (zPc D cy bs sa N kd len X Y R [.ref (bs + (i + 47))]) (zQi D cy bs N kd len (fun r st => st.2.2 = R ∧ (r = zAnd (wyP (rP Z q) (csHt (rP Z q) (rG Z q) (coX X i 1) (Z q 27).toNat)) (zXor (coX X i 2) (-1)) ∧ fvK X (st.1) Y (st.2.1) i))) 0 0 (zA bs) := by
  refine zstart (by decide) (Nat.le_of_ble_eq_true rfl) ?_
  intro p e s m args below meth c ls C hE hH hr hlk hnm hl hargs
  have hF := hF hH.2.2.1 hH.2.2.2
  have hS : va_S (zA bs) s.heap s.heap [] := va_S.rf
  have hl : lv_has ls 1 [(0, .ref (bs + (i + 47)))] := hl
  refine lv_aload_n C.1 C.2.1 dX2_wanted_0 rfl (lv_at hl 0 rfl) ?_
  refine zg2_0 C hH (zCo_n hC) (zCo_k hC) q_448 (zCo_r0 hC) dX2_wanted_1 ?_
  refine zg1_5 C hH (zChart_n0 hC.1) (zChart_k0 hC.1) q_405 (zChart_r10 hC.1) dX2_wanted_4 ?_
  refine lv_aload_n C.1 C.2.1 dX2_wanted_7 rfl (lv_at hl 0 rfl) ?_
  obtain ⟨o1, hF⟩ := hF
  refine zgoi (zrunV (As := []) (rest := [.ref (bs + (i + 10))]) C hE hH hS hl.1 (c_X2_headTip (l := l) hC  o1) k_RX2_117 ⟨Nat.le_of_ble_eq_true rfl, Nat.le_of_ble_eq_true rfl⟩ (zCo_n hC) (zCo_k hC) rfl rfl rfl (Nat.le_of_ble_eq_true rfl) dX2_wanted_8 ⟨Nat.zero_le _, Nat.zero_le _⟩) hS (fun r4 X2 Y3 Rq H locs hrq hq hH hS => ?_)
  obtain ⟨h9R, hq⟩ := hq
  dsimp only at h9R
  rw [h9R] at hH
  have hr4 := hrq
  have hF := hF r4 hrq X2 hH.2.2.1 Y3 hH.2.2.2 hq
  obtain ⟨o5, hF⟩ := hF
  refine zd_iald C hH (zChart_n10 hC.1) (zChart_k10 hC.1) o5.1 (by rw [zChart_l10 hC.1]; exact o5.2) (by rw [zChart_l10 hC.1]; decide) dX2_wanted_11 ?_
  refine lv_aload_n C.1 C.2.1 dX2_wanted_12 rfl (lv_at hl 0 rfl) ?_
  refine zg2_6 C hH (zCo_n hC) (zCo_k hC) q_456 dX2_wanted_13 ?_
  refine zd_iconst C dX2_wanted_16 ?_
  refine zd_ixor C dX2_wanted_17 ?_
  refine zd_iand C dX2_wanted_18 ?_
  exact zd_iret C hr hlk hH hS (zI_rg _) (⟨rfl, hF⟩) dX2_wanted_19
theorem v_X2_wanted {X Y : Nat → Int → Int} {R : Nat → Int → Option Nat} {i : Nat} {Z : Nat → Int → Int} {q : Nat}  (hp : cA Z q X Y R i) : F_X2_wanted i Z q X Y R  := by
  unfold F_X2_wanted
  intro hX hY
  have hq := hp
  obtain ⟨l27, r27, e27⟩ := cA_l hq
  have hb := csHt_b (P := rP Z q) (G := rG Z q) (h := coX X i 1) (Z q 27).toNat
  refine ⟨?_, ?_⟩
  · exact hq
  intro r4
  intro _
  intro X2
  intro rX2
  intro Y3
  intro rY3
  intro h1
  refine ⟨?_, ?_⟩
  · rw [h1.1]
    omega
  refine ⟨?_, h1.2⟩
  rw [h1.1, h1.2.1 (i + 10) (by omega), h1.2.1 (i + 47) (by omega), cA_w hq (by omega)]
  rfl
theorem c_X2_wanted {l : Launch} {D : va_G} {cy : Nat → ClassId} {bs N : Nat} {sa : Nat → Nat} {kd len : Nat → Nat} {X Y : Nat → Int → Int} {R : Nat → Int → Option Nat} {i : Nat} {Z : Nat → Int → Int} {q : Nat} (hC : zCourse N kd len R i)  (hp : cA Z q X Y R i) : Met l yX2_wanted (.code yX2_wanted cX2_wanted 1 (some .int) :: zTB) (zRm 3 70) (zPc D cy bs sa N kd len X Y R [.ref (bs + (i + 47))]) (zQi D cy bs N kd len (fun r st => st.2.2 = R ∧ (r = zAnd (wyP (rP Z q) (csHt (rP Z q) (rG Z q) (coX X i 1) (Z q 27).toNat)) (zXor (coX X i 2) (-1)) ∧ fvK X (st.1) Y (st.2.1) i))) 0 0 (zA bs) := w_X2_wanted hC  (v_X2_wanted  hp)
