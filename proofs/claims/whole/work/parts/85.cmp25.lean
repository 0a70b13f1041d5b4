/-! ALL CELLS OF WHAT IS TOLD, AND OF THE WHOLE COMPONENT -/
def rwN (z : Int) : Nat := if z < 2 then 80 else if z < 4 then 16 else 24
theorem rwN_s (z : Int) : rwN z < 2147483648 := by
  unfold rwN
  split
  · decide
  · split <;> decide
def zTd (N : Nat) (kd len : Nat → Nat) (R : Nat → Int → Option Nat) (i : Nat) : Prop := zTold N kd len R i ∧ i + 33 < N ∧ (kd (i + 3) = 18 ∧ len (i + 3) = 2 ∧ R i 5 = some (i + 3)) ∧ (kd (i + 4) = 16 ∧ len (i + 4) = 2 ∧ R i 6 = some (i + 4)) ∧ (kd (i + 5) = 19 ∧ len (i + 5) = 6 ∧ R i 7 = some (i + 5)) ∧ (∀ z : Int, 0 ≤ z → z < 2 → (R (i + 3) z = some (i + 6 + 8 * z.toNat) ∧ zNet N kd len R (i + 6 + 8 * z.toNat)) ∧ R (i + 4) z = some (i + 8 + 8 * z.toNat) ∧ zBlocks N kd len R (i + 8 + 8 * z.toNat)) ∧ ∀ z : Int, 0 ≤ z → z < 6 → R (i + 5) z = some (i + 22 + 2 * z.toNat) ∧ zRows N kd len R (i + 22 + 2 * z.toNat) (rwN z)
theorem zTd_n3 {N : Nat} {kd len : Nat → Nat} {R : Nat → Int → Option Nat} {i : Nat} (h : zTd N kd len R i) : i + 3 < N := by have := h.2.1; omega
theorem zTd_k3 {N : Nat} {kd len : Nat → Nat} {R : Nat → Int → Option Nat} {i : Nat} (h : zTd N kd len R i) : kd (i + 3) = 18 := h.2.2.1.1
theorem zTd_l3 {N : Nat} {kd len : Nat → Nat} {R : Nat → Int → Option Nat} {i : Nat} (h : zTd N kd len R i) : len (i + 3) = 2 := h.2.2.1.2.1
theorem zTd_r3 {N : Nat} {kd len : Nat → Nat} {R : Nat → Int → Option Nat} {i : Nat} (h : zTd N kd len R i) : R i 5 = some (i + 3) := h.2.2.1.2.2
theorem zTd_n4 {N : Nat} {kd len : Nat → Nat} {R : Nat → Int → Option Nat} {i : Nat} (h : zTd N kd len R i) : i + 4 < N := by have := h.2.1; omega
theorem zTd_k4 {N : Nat} {kd len : Nat → Nat} {R : Nat → Int → Option Nat} {i : Nat} (h : zTd N kd len R i) : kd (i + 4) = 16 := h.2.2.2.1.1
theorem zTd_l4 {N : Nat} {kd len : Nat → Nat} {R : Nat → Int → Option Nat} {i : Nat} (h : zTd N kd len R i) : len (i + 4) = 2 := h.2.2.2.1.2.1
theorem zTd_r4 {N : Nat} {kd len : Nat → Nat} {R : Nat → Int → Option Nat} {i : Nat} (h : zTd N kd len R i) : R i 6 = some (i + 4) := h.2.2.2.1.2.2
theorem zTd_n5 {N : Nat} {kd len : Nat → Nat} {R : Nat → Int → Option Nat} {i : Nat} (h : zTd N kd len R i) : i + 5 < N := by have := h.2.1; omega
theorem zTd_k5 {N : Nat} {kd len : Nat → Nat} {R : Nat → Int → Option Nat} {i : Nat} (h : zTd N kd len R i) : kd (i + 5) = 19 := h.2.2.2.2.1.1
theorem zTd_l5 {N : Nat} {kd len : Nat → Nat} {R : Nat → Int → Option Nat} {i : Nat} (h : zTd N kd len R i) : len (i + 5) = 6 := h.2.2.2.2.1.2.1
theorem zTd_r5 {N : Nat} {kd len : Nat → Nat} {R : Nat → Int → Option Nat} {i : Nat} (h : zTd N kd len R i) : R i 7 = some (i + 5) := h.2.2.2.2.1.2.2
theorem zTd_nb {N : Nat} {kd len : Nat → Nat} {R : Nat → Int → Option Nat} {i : Nat} (h : zTd N kd len R i) {z : Int} (h0 : 0 ≤ z) (h1 : z < 2) : (R (i + 3) z = some (i + 6 + 8 * z.toNat) ∧ zNet N kd len R (i + 6 + 8 * z.toNat)) ∧ R (i + 4) z = some (i + 8 + 8 * z.toNat) ∧ zBlocks N kd len R (i + 8 + 8 * z.toNat) := h.2.2.2.2.2.1 z h0 h1
theorem zTd_rw {N : Nat} {kd len : Nat → Nat} {R : Nat → Int → Option Nat} {i : Nat} (h : zTd N kd len R i) {z : Int} (h0 : 0 ≤ z) (h1 : z < 6) : (R (i + 5) z = some (i + 22 + 2 * z.toNat) ∧ zRows N kd len R (i + 22 + 2 * z.toNat) (rwN z)) ∧ len (i + 22 + 2 * z.toNat + 1) < 2147483648 := ⟨h.2.2.2.2.2.2 z h0 h1, by rw [zRows_l1 (h.2.2.2.2.2.2 z h0 h1).2]; exact rwN_s z⟩
theorem rix_0 {s a : Int} {P : Prop} (h : (2 ≤ s ∧ s < 5) ∧ 0 ≤ a ∧ a < 2 ∧ P) : 0 ≤ (s - 2) * 2 + a := by have := h.1; have := h.2; omega
theorem rix_1 {s a : Int} {P : Prop} (h : (2 ≤ s ∧ s < 5) ∧ 0 ≤ a ∧ a < 2 ∧ P) : (s - 2) * 2 + a < 6 := by have := h.1; have := h.2; omega
abbrev cX9_netAt : ByteArray := prog_11_method_5_code
def yX9_netAt : MethodName := ⟨RX9, "netAt", "(I)LWorkChains$Net;"⟩
theorem dX9_netAt_0 : decode cX9_netAt 0 = .ok (.aload_n 0, 1) := by decide +kernel
theorem dX9_netAt_1 : decode cX9_netAt 1 = .ok (.iconst 0, 1) := by decide +kernel
theorem dX9_netAt_2 : decode cX9_netAt 2 = .ok (.iload_n 1, 1) := by decide +kernel
theorem dX9_netAt_3 : decode cX9_netAt 3 = .ok (.invokevirtual 68, 3) := by decide +kernel
theorem dX9_netAt_6 : decode cX9_netAt 6 = .ok (.ifCond .eq 12, 3) := by decide +kernel
theorem dX9_netAt_9 : decode cX9_netAt 9 = .ok (.aload_n 0, 1) := by decide +kernel
theorem dX9_netAt_10 : decode cX9_netAt 10 = .ok (.getfield 25, 3) := by decide +kernel
theorem dX9_netAt_13 : decode cX9_netAt 13 = .ok (.iload_n 1, 1) := by decide +kernel
theorem dX9_netAt_14 : decode cX9_netAt 14 = .ok (.aaload, 1) := by decide +kernel
theorem dX9_netAt_15 : decode cX9_netAt 15 = .ok (.goto 4, 3) := by decide +kernel
theorem dX9_netAt_18 : decode cX9_netAt 18 = .ok (.aconst_null, 1) := by decide +kernel
theorem dX9_netAt_19 : decode cX9_netAt 19 = .ok (.areturn, 1) := by decide +kernel
theorem q_289 : Cond.fieldLink RX9 25 RX9 "nets" "[LWorkChains$Net;" ∈ zTB := zmem 289 (by decide +kernel) rfl
def F_X9_netAt (i : Nat) (X Y : Nat → Int → Int) (R : Nat → Int → Option Nat) (a : Int) : Prop := (∀ i j, rI (X i j)) → (∀ i j, rL (Y i j)) → (((decide ((0 ≤ ((0 : Int)) ∧ ((0 : Int)) < 5) ∧ (0 ≤ (a) ∧ (a) < 2) ∧ (a) < X (i + 2) ((0 : Int)))) = false) → (none = if 0 ≤ a ∧ a < 2 ∧ a < X (i + 2) 0 then some (i + 6 + 8 * (a : Int).toNat) else none)) ∧ (((decide ((0 ≤ ((0 : Int)) ∧ ((0 : Int)) < 5) ∧ (0 ≤ (a) ∧ (a) < 2) ∧ (a) < X (i + 2) ((0 : Int)))) = true) → ((0 ≤ a ∧ a < 2) ∧ (some (i + 6 + 8 * (a : Int).toNat) = if 0 ≤ a ∧ a < 2 ∧ a < X (i + 2) 0 then some (i + 6 + 8 * (a : Int).toNat) else none)))
set_option maxHeartbeats 4000000 in
set_option maxRecDepth 100000 in
theorem w_X9_netAt {l : Launch} {D : va_G} {cy : Nat → ClassId} {bs N : Nat} {sa : Nat → Nat} {kd len : Nat → Nat} {X Y : Nat → Int → Int} {R : Nat → Int → Option Nat} {i : Nat} (hC : zTd N kd len R i) (a : Int) (ha : rI a) (hF : F_X9_netAt i X Y R a) : Met l yX9_netAt (.code yX9_netAt cX9_netAt 2 (some (.object "WorkChains$Net")) :: zTB) (zRm 1 22) (zPc D cy bs sa N kd len X Y R [.ref (bs + (i)), .int (zI (a))]) (zQr D cy bs N kd len (fun r st => st = (X, Y, R) ∧ r = if 0 ≤ a ∧ a < 2 ∧ a < X (i + 2) 0 then some (i + 6 + 8 * (a : Int).toNat) else none)) 0 0 (zA bs) := by
  refine zstart (by decide) (Nat.le_of_ble_eq_true rfl) ?_
  intro p e s m args below meth c ls C hE hH hr hlk hnm hl hargs
  have hF := hF hH.2.2.1 hH.2.2.2
  have hS : va_S (zA bs) s.heap s.heap [] := va_S.rf
  have hl : lv_has ls 2 [(0, .ref (bs + (i))), (1, .int (zI (a)))] := hl
  refine lv_aload_n C.1 C.2.1 dX9_netAt_0 rfl (lv_at hl 0 rfl) ?_
  refine zd_iconst C dX9_netAt_1 ?_
  refine lv_iload_n C.1 C.2.1 dX9_netAt_2 rfl (lv_at hl 1 rfl) ?_
  refine zgoi (zrunV (As := [.int (zI (0)), .int (zI (a))]) (rest := []) C hE hH hS hl.1 (c_X9_has (l := l) hC.1 (0) (by decide) (a) ha) k_RX9_68 ⟨Nat.le_of_ble_eq_true rfl, Nat.le_of_ble_eq_true rfl⟩ (zTold_n0 hC.1) (zTold_k0 hC.1) rfl rfl rfl (Nat.le_of_ble_eq_true rfl) dX9_netAt_3 ⟨Nat.zero_le _, Nat.zero_le _⟩) hS (fun rq Xq Yq Rq H locs hrq hq hH hS => ?_)
  obtain ⟨h91, h92⟩ := hq
  have h93 : Xq = X := congrArg (fun z => z.1) h92
  have h94 : Yq = Y := congrArg (fun z => z.2.1) h92
  have h95 : Rq = R := congrArg (fun z => z.2.2) h92
  rw [h93, h94, h95] at hH
  subst h91
  refine zd_ifB_eq C 18 dX9_netAt_6 (by decide) (fun c1 => ?_) (fun c1 => ?_)
  · have hF := hF.1 c1
    refine lv_null C.1 C.2.1 dX9_netAt_18 ?_
    exact zd_aret C hr hlk hH hS (r := none) rfl ⟨rfl, hF⟩ dX9_netAt_19
  · have hF := hF.2 c1
    refine lv_aload_n C.1 C.2.1 dX9_netAt_9 rfl (lv_at hl 0 rfl) ?_
    refine zg9_5 C hH (zTold_n0 hC.1) (zTold_k0 hC.1) q_289 (zTd_r3 hC) dX9_netAt_10 ?_
    refine lv_iload_n C.1 C.2.1 dX9_netAt_13 rfl (lv_at hl 1 rfl) ?_
    obtain ⟨o2, hF⟩ := hF
    refine zd_aaldr C hH (zTd_n3 hC) 6 rfl rfl (by rw [(zTd_k3 hC)]; rfl) o2.1 (by rw [zTd_l3 hC]; exact o2.2) (by rw [zTd_l3 hC]; decide) (zTd_nb hC o2.1 o2.2).1.1 dX9_netAt_14 ?_
    refine lv_goto (tgt := 19) C.1 C.2.1 dX9_netAt_15 (by decide) ?_
    exact zd_aret C hr hlk hH hS (r := some (i + 6 + 8 * (a : Int).toNat)) rfl ⟨rfl, hF⟩ dX9_netAt_19
theorem v_X9_netAt {X Y : Nat → Int → Int} {R : Nat → Int → Option Nat} {i : Nat} (a : Int) (ha : rI a) : F_X9_netAt i X Y R a := by
  unfold F_X9_netAt
  intro hX hY
  refine ⟨?_, ?_⟩
  · intro c1
    have g := of_decide_eq_false c1
    rw [if_neg (fun z => g ⟨by decide, ⟨z.1, z.2.1⟩, z.2.2⟩)]
  intro c2
  refine ⟨?_, ?_⟩
  · have g := of_decide_eq_true c2
    exact g.2.1
  have g := of_decide_eq_true c2
  rw [if_pos ⟨g.2.1.1, g.2.1.2, g.2.2⟩]
theorem c_X9_netAt {l : Launch} {D : va_G} {cy : Nat → ClassId} {bs N : Nat} {sa : Nat → Nat} {kd len : Nat → Nat} {X Y : Nat → Int → Int} {R : Nat → Int → Option Nat} {i : Nat} (hC : zTd N kd len R i) (a : Int) (ha : rI a) : Met l yX9_netAt (.code yX9_netAt cX9_netAt 2 (some (.object "WorkChains$Net")) :: zTB) (zRm 1 22) (zPc D cy bs sa N kd len X Y R [.ref (bs + (i)), .int (zI (a))]) (zQr D cy bs N kd len (fun r st => st = (X, Y, R) ∧ r = if 0 ≤ a ∧ a < 2 ∧ a < X (i + 2) 0 then some (i + 6 + 8 * (a : Int).toNat) else none)) 0 0 (zA bs) := w_X9_netAt hC a ha (v_X9_netAt a ha)
abbrev cX9_blocksAt : ByteArray := prog_11_method_6_code
def yX9_blocksAt : MethodName := ⟨RX9, "blocksAt", "(I)LWorkChains$Blocks;"⟩
theorem dX9_blocksAt_0 : decode cX9_blocksAt 0 = .ok (.aload_n 0, 1) := by decide +kernel
theorem dX9_blocksAt_1 : decode cX9_blocksAt 1 = .ok (.iconst 1, 1) := by decide +kernel
theorem dX9_blocksAt_2 : decode cX9_blocksAt 2 = .ok (.iload_n 1, 1) := by decide +kernel
theorem dX9_blocksAt_3 : decode cX9_blocksAt 3 = .ok (.invokevirtual 68, 3) := by decide +kernel
theorem dX9_blocksAt_6 : decode cX9_blocksAt 6 = .ok (.ifCond .eq 12, 3) := by decide +kernel
theorem dX9_blocksAt_9 : decode cX9_blocksAt 9 = .ok (.aload_n 0, 1) := by decide +kernel
theorem dX9_blocksAt_10 : decode cX9_blocksAt 10 = .ok (.getfield 31, 3) := by decide +kernel
theorem dX9_blocksAt_13 : decode cX9_blocksAt 13 = .ok (.iload_n 1, 1) := by decide +kernel
theorem dX9_blocksAt_14 : decode cX9_blocksAt 14 = .ok (.aaload, 1) := by decide +kernel
theorem dX9_blocksAt_15 : decode cX9_blocksAt 15 = .ok (.goto 4, 3) := by decide +kernel
theorem dX9_blocksAt_18 : decode cX9_blocksAt 18 = .ok (.aconst_null, 1) := by decide +kernel
theorem dX9_blocksAt_19 : decode cX9_blocksAt 19 = .ok (.areturn, 1) := by decide +kernel
theorem q_290 : Cond.fieldLink RX9 31 RX9 "blocks" "[LWorkChains$Blocks;" ∈ zTB := zmem 290 (by decide +kernel) rfl
def F_X9_blocksAt (i : Nat) (X Y : Nat → Int → Int) (R : Nat → Int → Option Nat) (a : Int) : Prop := (∀ i j, rI (X i j)) → (∀ i j, rL (Y i j)) → (((decide ((0 ≤ ((1 : Int)) ∧ ((1 : Int)) < 5) ∧ (0 ≤ (a) ∧ (a) < 2) ∧ (a) < X (i + 2) ((1 : Int)))) = false) → (none = if 0 ≤ a ∧ a < 2 ∧ a < X (i + 2) 1 then some (i + 8 + 8 * (a : Int).toNat) else none)) ∧ (((decide ((0 ≤ ((1 : Int)) ∧ ((1 : Int)) < 5) ∧ (0 ≤ (a) ∧ (a) < 2) ∧ (a) < X (i + 2) ((1 : Int)))) = true) → ((0 ≤ a ∧ a < 2) ∧ (some (i + 8 + 8 * (a : Int).toNat) = if 0 ≤ a ∧ a < 2 ∧ a < X (i + 2) 1 then some (i + 8 + 8 * (a : Int).toNat) else none)))
set_option maxHeartbeats 4000000 in
set_option maxRecDepth 100000 in
theorem w_X9_blocksAt {l : Launch} {D : va_G} {cy : Nat → ClassId} {bs N : Nat} {sa : Nat → Nat} {kd len : Nat → Nat} {X Y : Nat → Int → Int} {R : Nat → Int → Option Nat} {i : Nat} (hC : zTd N kd len R i) (a : Int) (ha : rI a) (hF : F_X9_blocksAt i X Y R a) : Met l yX9_blocksAt (.code yX9_blocksAt cX9_blocksAt 2 (some (.object "WorkChains$Blocks")) :: zTB) (zRm 1 22) (zPc D cy bs sa N kd len X Y R [.ref (bs + (i)), .int (zI (a))]) (zQr D cy bs N kd len (fun r st => st = (X, Y, R) ∧ r = if 0 ≤ a ∧ a < 2 ∧ a < X (i + 2) 1 then some (i + 8 + 8 * (a : Int).toNat) else none)) 0 0 (zA bs) := by
  refine zstart (by decide) (Nat.le_of_ble_eq_true rfl) ?_
  intro p e s m args below meth c ls C hE hH hr hlk hnm hl hargs
  have hF := hF hH.2.2.1 hH.2.2.2
  have hS : va_S (zA bs) s.heap s.heap [] := va_S.rf
  have hl : lv_has ls 2 [(0, .ref (bs + (i))), (1, .int (zI (a)))] := hl
  refine lv_aload_n C.1 C.2.1 dX9_blocksAt_0 rfl (lv_at hl 0 rfl) ?_
  refine zd_iconst C dX9_blocksAt_1 ?_
  refine lv_iload_n C.1 C.2.1 dX9_blocksAt_2 rfl (lv_at hl 1 rfl) ?_
  refine zgoi (zrunV (As := [.int (zI (1)), .int (zI (a))]) (rest := []) C hE hH hS hl.1 (c_X9_has (l := l) hC.1 (1) (by decide) (a) ha) k_RX9_68 ⟨Nat.le_of_ble_eq_true rfl, Nat.le_of_ble_eq_true rfl⟩ (zTold_n0 hC.1) (zTold_k0 hC.1) rfl rfl rfl (Nat.le_of_ble_eq_true rfl) dX9_blocksAt_3 ⟨Nat.zero_le _, Nat.zero_le _⟩) hS (fun rq Xq Yq Rq H locs hrq hq hH hS => ?_)
  obtain ⟨h91, h92⟩ := hq
  have h93 : Xq = X := congrArg (fun z => z.1) h92
  have h94 : Yq = Y := congrArg (fun z => z.2.1) h92
  have h95 : Rq = R := congrArg (fun z => z.2.2) h92
  rw [h93, h94, h95] at hH
  subst h91
  refine zd_ifB_eq C 18 dX9_blocksAt_6 (by decide) (fun c1 => ?_) (fun c1 => ?_)
  · have hF := hF.1 c1
    refine lv_null C.1 C.2.1 dX9_blocksAt_18 ?_
    exact zd_aret C hr hlk hH hS (r := none) rfl ⟨rfl, hF⟩ dX9_blocksAt_19
  · have hF := hF.2 c1
    refine lv_aload_n C.1 C.2.1 dX9_blocksAt_9 rfl (lv_at hl 0 rfl) ?_
    refine zg9_6 C hH (zTold_n0 hC.1) (zTold_k0 hC.1) q_290 (zTd_r4 hC) dX9_blocksAt_10 ?_
    refine lv_iload_n C.1 C.2.1 dX9_blocksAt_13 rfl (lv_at hl 1 rfl) ?_
    obtain ⟨o2, hF⟩ := hF
    refine zd_aaldr C hH (zTd_n4 hC) 4 rfl rfl (by rw [(zTd_k4 hC)]; rfl) o2.1 (by rw [zTd_l4 hC]; exact o2.2) (by rw [zTd_l4 hC]; decide) (zTd_nb hC o2.1 o2.2).2.1 dX9_blocksAt_14 ?_
    refine lv_goto (tgt := 19) C.1 C.2.1 dX9_blocksAt_15 (by decide) ?_
    exact zd_aret C hr hlk hH hS (r := some (i + 8 + 8 * (a : Int).toNat)) rfl ⟨rfl, hF⟩ dX9_blocksAt_19
theorem v_X9_blocksAt {X Y : Nat → Int → Int} {R : Nat → Int → Option Nat} {i : Nat} (a : Int) (ha : rI a) : F_X9_blocksAt i X Y R a := by
  unfold F_X9_blocksAt
  intro hX hY
  refine ⟨?_, ?_⟩
  · intro c1
    have g := of_decide_eq_false c1
    rw [if_neg (fun z => g ⟨by decide, ⟨z.1, z.2.1⟩, z.2.2⟩)]
  intro c2
  refine ⟨?_, ?_⟩
  · have g := of_decide_eq_true c2
    exact g.2.1
  have g := of_decide_eq_true c2
  rw [if_pos ⟨g.2.1.1, g.2.1.2, g.2.2⟩]
theorem c_X9_blocksAt {l : Launch} {D : va_G} {cy : Nat → ClassId} {bs N : Nat} {sa : Nat → Nat} {kd len : Nat → Nat} {X Y : Nat → Int → Int} {R : Nat → Int → Option Nat} {i : Nat} (hC : zTd N kd len R i) (a : Int) (ha : rI a) : Met l yX9_blocksAt (.code yX9_blocksAt cX9_blocksAt 2 (some (.object "WorkChains$Blocks")) :: zTB) (zRm 1 22) (zPc D cy bs sa N kd len X Y R [.ref (bs + (i)), .int (zI (a))]) (zQr D cy bs N kd len (fun r st => st = (X, Y, R) ∧ r = if 0 ≤ a ∧ a < 2 ∧ a < X (i + 2) 1 then some (i + 8 + 8 * (a : Int).toNat) else none)) 0 0 (zA bs) := w_X9_blocksAt hC a ha (v_X9_blocksAt a ha)
abbrev cX9_rowsAt : ByteArray := prog_11_method_7_code
def yX9_rowsAt : MethodName := ⟨RX9, "rowsAt", "(II)LWorkChains$Rows;"⟩
theorem dX9_rowsAt_0 : decode cX9_rowsAt 0 = .ok (.iload_n 1, 1) := by decide +kernel
theorem dX9_rowsAt_1 : decode cX9_rowsAt 1 = .ok (.iconst 2, 1) := by decide +kernel
theorem dX9_rowsAt_2 : decode cX9_rowsAt 2 = .ok (.if_icmp .lt 32, 3) := by decide +kernel
theorem dX9_rowsAt_5 : decode cX9_rowsAt 5 = .ok (.iload_n 1, 1) := by decide +kernel
theorem dX9_rowsAt_6 : decode cX9_rowsAt 6 = .ok (.iconst 5, 1) := by decide +kernel
theorem dX9_rowsAt_7 : decode cX9_rowsAt 7 = .ok (.if_icmp .ge 27, 3) := by decide +kernel
theorem dX9_rowsAt_10 : decode cX9_rowsAt 10 = .ok (.aload_n 0, 1) := by decide +kernel
theorem dX9_rowsAt_11 : decode cX9_rowsAt 11 = .ok (.iload_n 1, 1) := by decide +kernel
theorem dX9_rowsAt_12 : decode cX9_rowsAt 12 = .ok (.iload_n 2, 1) := by decide +kernel
theorem dX9_rowsAt_13 : decode cX9_rowsAt 13 = .ok (.invokevirtual 68, 3) := by decide +kernel
theorem dX9_rowsAt_16 : decode cX9_rowsAt 16 = .ok (.ifCond .eq 18, 3) := by decide +kernel
theorem dX9_rowsAt_19 : decode cX9_rowsAt 19 = .ok (.aload_n 0, 1) := by decide +kernel
theorem dX9_rowsAt_20 : decode cX9_rowsAt 20 = .ok (.getfield 37, 3) := by decide +kernel
theorem dX9_rowsAt_23 : decode cX9_rowsAt 23 = .ok (.iload_n 1, 1) := by decide +kernel
theorem dX9_rowsAt_24 : decode cX9_rowsAt 24 = .ok (.iconst 2, 1) := by decide +kernel
theorem dX9_rowsAt_25 : decode cX9_rowsAt 25 = .ok (.isub, 1) := by decide +kernel
theorem dX9_rowsAt_26 : decode cX9_rowsAt 26 = .ok (.iconst 2, 1) := by decide +kernel
theorem dX9_rowsAt_27 : decode cX9_rowsAt 27 = .ok (.imul, 1) := by decide +kernel
theorem dX9_rowsAt_28 : decode cX9_rowsAt 28 = .ok (.iload_n 2, 1) := by decide +kernel
theorem dX9_rowsAt_29 : decode cX9_rowsAt 29 = .ok (.iadd, 1) := by decide +kernel
theorem dX9_rowsAt_30 : decode cX9_rowsAt 30 = .ok (.aaload, 1) := by decide +kernel
theorem dX9_rowsAt_31 : decode cX9_rowsAt 31 = .ok (.goto 4, 3) := by decide +kernel
theorem dX9_rowsAt_34 : decode cX9_rowsAt 34 = .ok (.aconst_null, 1) := by decide +kernel
theorem dX9_rowsAt_35 : decode cX9_rowsAt 35 = .ok (.areturn, 1) := by decide +kernel
theorem q_291 : Cond.fieldLink RX9 37 RX9 "rows" "[LWorkChains$Rows;" ∈ zTB := zmem 291 (by decide +kernel) rfl
def F_X9_rowsAt (i : Nat) (X Y : Nat → Int → Int) (R : Nat → Int → Option Nat) (a : Int) (b : Int) : Prop := (∀ i j, rI (X i j)) → (∀ i j, rL (Y i j)) → ((a < 2) → (none = if (2 ≤ a ∧ a < 5) ∧ 0 ≤ b ∧ b < 2 ∧ b < X (i + 2) a then some (i + 22 + 2 * (((a - 2) * 2 + b) : Int).toNat) else none)) ∧ ((¬ (a < 2)) → (((5 ≤ a) → (none = if (2 ≤ a ∧ a < 5) ∧ 0 ≤ b ∧ b < 2 ∧ b < X (i + 2) a then some (i + 22 + 2 * (((a - 2) * 2 + b) : Int).toNat) else none)) ∧ ((¬ (5 ≤ a)) → ((((decide ((0 ≤ (a) ∧ (a) < 5) ∧ (0 ≤ (b) ∧ (b) < 2) ∧ (b) < X (i + 2) (a))) = false) → (none = if (2 ≤ a ∧ a < 5) ∧ 0 ≤ b ∧ b < 2 ∧ b < X (i + 2) a then some (i + 22 + 2 * (((a - 2) * 2 + b) : Int).toNat) else none)) ∧ (((decide ((0 ≤ (a) ∧ (a) < 5) ∧ (0 ≤ (b) ∧ (b) < 2) ∧ (b) < X (i + 2) (a))) = true) → ((0 ≤ (((a - 2) * 2) + b) ∧ (((a - 2) * 2) + b) < 6) ∧ (some (i + 22 + 2 * (((a - 2) * 2) + b : Int).toNat) = if (2 ≤ a ∧ a < 5) ∧ 0 ≤ b ∧ b < 2 ∧ b < X (i + 2) a then some (i + 22 + 2 * (((a - 2) * 2 + b) : Int).toNat) else none)))))))
set_option maxHeartbeats 4000000 in
set_option maxRecDepth 100000 in
theorem w_X9_rowsAt {l : Launch} {D : va_G} {cy : Nat → ClassId} {bs N : Nat} {sa : Nat → Nat} {kd len : Nat → Nat} {X Y : Nat → Int → Int} {R : Nat → Int → Option Nat} {i : Nat} (hC : zTd N kd len R i) (a : Int) (ha : rI a) (b : Int) (hb : rI b) (hF : F_X9_rowsAt i X Y R a b) : Met l yX9_rowsAt (.code yX9_rowsAt cX9_rowsAt 3 (some (.object "WorkChains$Rows")) :: zTB) (zRm 1 22) (zPc D cy bs sa N kd len X Y R [.ref (bs + (i)), .int (zI (a)), .int (zI (b))]) (zQr D cy bs N kd len (fun r st => st = (X, Y, R) ∧ r = if (2 ≤ a ∧ a < 5) ∧ 0 ≤ b ∧ b < 2 ∧ b < X (i + 2) a then some (i + 22 + 2 * (((a - 2) * 2 + b) : Int).toNat) else none)) 0 0 (zA bs) := by
  refine zstart (by decide) (Nat.le_of_ble_eq_true rfl) ?_
  intro p e s m args below meth c ls C hE hH hr hlk hnm hl hargs
  have hF := hF hH.2.2.1 hH.2.2.2
  have hS : va_S (zA bs) s.heap s.heap [] := va_S.rf
  have hl : lv_has ls 3 [(0, .ref (bs + (i))), (1, .int (zI (a))), (2, .int (zI (b)))] := hl
  refine lv_iload_n C.1 C.2.1 dX9_rowsAt_0 rfl (lv_at hl 1 rfl) ?_
  refine zd_iconst C dX9_rowsAt_1 ?_
  refine zd_icmp_lt C ha (by decide) 34 dX9_rowsAt_2 (by decide) (fun c1 => ?_) (fun c1 => ?_)
  · have hF := hF.1 c1
    refine lv_null C.1 C.2.1 dX9_rowsAt_34 ?_
    exact zd_aret C hr hlk hH hS (r := none) rfl ⟨rfl, hF⟩ dX9_rowsAt_35
  · have hF := hF.2 c1
    refine lv_iload_n C.1 C.2.1 dX9_rowsAt_5 rfl (lv_at hl 1 rfl) ?_
    refine zd_iconst C dX9_rowsAt_6 ?_
    refine zd_icmp_ge C ha (by decide) 34 dX9_rowsAt_7 (by decide) (fun c2 => ?_) (fun c2 => ?_)
    · have hF := hF.1 c2
      refine lv_null C.1 C.2.1 dX9_rowsAt_34 ?_
      exact zd_aret C hr hlk hH hS (r := none) rfl ⟨rfl, hF⟩ dX9_rowsAt_35
    · have hF := hF.2 c2
      refine lv_aload_n C.1 C.2.1 dX9_rowsAt_10 rfl (lv_at hl 0 rfl) ?_
      refine lv_iload_n C.1 C.2.1 dX9_rowsAt_11 rfl (lv_at hl 1 rfl) ?_
      refine lv_iload_n C.1 C.2.1 dX9_rowsAt_12 rfl (lv_at hl 2 rfl) ?_
      refine zgoi (zrunV (As := [.int (zI (a)), .int (zI (b))]) (rest := []) C hE hH hS hl.1 (c_X9_has (l := l) hC.1 (a) ha (b) hb) k_RX9_68 ⟨Nat.le_of_ble_eq_true rfl, Nat.le_of_ble_eq_true rfl⟩ (zTold_n0 hC.1) (zTold_k0 hC.1) rfl rfl rfl (Nat.le_of_ble_eq_true rfl) dX9_rowsAt_13 ⟨Nat.zero_le _, Nat.zero_le _⟩) hS (fun rq Xq Yq Rq H locs hrq hq hH hS => ?_)
      obtain ⟨h91, h92⟩ := hq
      have h93 : Xq = X := congrArg (fun z => z.1) h92
      have h94 : Yq = Y := congrArg (fun z => z.2.1) h92
      have h95 : Rq = R := congrArg (fun z => z.2.2) h92
      rw [h93, h94, h95] at hH
      subst h91
      refine zd_ifB_eq C 34 dX9_rowsAt_16 (by decide) (fun c3 => ?_) (fun c3 => ?_)
      · have hF := hF.1 c3
        refine lv_null C.1 C.2.1 dX9_rowsAt_34 ?_
        exact zd_aret C hr hlk hH hS (r := none) rfl ⟨rfl, hF⟩ dX9_rowsAt_35
      · have hF := hF.2 c3
        refine lv_aload_n C.1 C.2.1 dX9_rowsAt_19 rfl (lv_at hl 0 rfl) ?_
        refine zg9_7 C hH (zTold_n0 hC.1) (zTold_k0 hC.1) q_291 (zTd_r5 hC) dX9_rowsAt_20 ?_
        refine lv_iload_n C.1 C.2.1 dX9_rowsAt_23 rfl (lv_at hl 1 rfl) ?_
        refine zd_iconst C dX9_rowsAt_24 ?_
        refine zd_isub C dX9_rowsAt_25 ?_
        refine zd_iconst C dX9_rowsAt_26 ?_
        refine zd_imul C dX9_rowsAt_27 ?_
        refine lv_iload_n C.1 C.2.1 dX9_rowsAt_28 rfl (lv_at hl 2 rfl) ?_
        refine zd_iadd C dX9_rowsAt_29 ?_
        obtain ⟨o4, hF⟩ := hF
        refine zd_aaldr C hH (zTd_n5 hC) 7 rfl rfl (by rw [(zTd_k5 hC)]; rfl) o4.1 (by rw [zTd_l5 hC]; exact o4.2) (by rw [zTd_l5 hC]; decide) (zTd_rw hC o4.1 o4.2).1.1 dX9_rowsAt_30 ?_
        refine lv_goto (tgt := 35) C.1 C.2.1 dX9_rowsAt_31 (by decide) ?_
        exact zd_aret C hr hlk hH hS (r := some (i + 22 + 2 * (((a - 2) * 2) + b : Int).toNat)) rfl ⟨rfl, hF⟩ dX9_rowsAt_35
theorem v_X9_rowsAt {X Y : Nat → Int → Int} {R : Nat → Int → Option Nat} {i : Nat} (a : Int) (ha : rI a) (b : Int) (hb : rI b) : F_X9_rowsAt i X Y R a b := by
  unfold F_X9_rowsAt
  intro hX hY
  refine ⟨?_, ?_⟩
  · intro c1
    rw [if_neg (by omega)]
  intro c2
  refine ⟨?_, ?_⟩
  · intro c3
    rw [if_neg (by omega)]
  intro c4
  refine ⟨?_, ?_⟩
  · intro c5
    have g := of_decide_eq_false c5
    rw [if_neg (fun z => g ⟨by omega, ⟨z.2.1, z.2.2.1⟩, z.2.2.2⟩)]
  intro c6
  refine ⟨?_, ?_⟩
  · have g := of_decide_eq_true c6
    omega
  have g := of_decide_eq_true c6
  rw [if_pos ⟨by omega, g.2.1.1, g.2.1.2, g.2.2⟩]
theorem c_X9_rowsAt {l : Launch} {D : va_G} {cy : Nat → ClassId} {bs N : Nat} {sa : Nat → Nat} {kd len : Nat → Nat} {X Y : Nat → Int → Int} {R : Nat → Int → Option Nat} {i : Nat} (hC : zTd N kd len R i) (a : Int) (ha : rI a) (b : Int) (hb : rI b) : Met l yX9_rowsAt (.code yX9_rowsAt cX9_rowsAt 3 (some (.object "WorkChains$Rows")) :: zTB) (zRm 1 22) (zPc D cy bs sa N kd len X Y R [.ref (bs + (i)), .int (zI (a)), .int (zI (b))]) (zQr D cy bs N kd len (fun r st => st = (X, Y, R) ∧ r = if (2 ≤ a ∧ a < 5) ∧ 0 ≤ b ∧ b < 2 ∧ b < X (i + 2) a then some (i + 22 + 2 * (((a - 2) * 2 + b) : Int).toNat) else none)) 0 0 (zA bs) := w_X9_rowsAt hC a ha b hb (v_X9_rowsAt a ha b hb)
def zLaws (N : Nat) (kd len : Nat → Nat) (R : Nat → Int → Option Nat) (i : Nat) : Prop := zCourse N kd len R i ∧ i + 88 < N ∧ kd (i + 49) = 4 ∧ R (i + 49) 0 = some i ∧ R (i + 49) 1 = some (i + 47) ∧ (kd (i + 50) = 21 ∧ len (i + 50) = 36 ∧ R (i + 49) 2 = some (i + 50)) ∧ (kd (i + 87) = 13 ∧ len (i + 87) = 16 ∧ R (i + 49) 3 = some (i + 87)) ∧ (kd (i + 88) = 13 ∧ len (i + 88) = 36 ∧ R (i + 49) 4 = some (i + 88)) ∧ ∀ z : Int, 0 ≤ z → z < 36 → R (i + 50) z = some (i + 51 + z.toNat) ∧ i + 51 + z.toNat < N ∧ kd (i + 51 + z.toNat) = 13 ∧ len (i + 51 + z.toNat) = 41
/-- the pool that is filled from -/
def pl9 (R : Nat → Int → Option Nat) (i : Nat) : Nat := (R i 0).getD 0
def zFill (N : Nat) (kd len : Nat → Nat) (R : Nat → Int → Option Nat) (i : Nat) : Prop := i + 13 < N ∧ kd i = 3 ∧ (kd (i + 3) = 17 ∧ len (i + 3) = 4 ∧ R i 1 = some (i + 3)) ∧ (kd (i + 4) = 13 ∧ len (i + 4) = 3 ∧ R i 2 = some (i + 4)) ∧ (kd (i + 5) = 13 ∧ len (i + 5) = 3 ∧ R i 3 = some (i + 5)) ∧ (∀ z : Int, 0 ≤ z → z < 4 → R (i + 3) z = some (i + 6 + 2 * z.toNat) ∧ zLedger N kd len R (i + 6 + 2 * z.toNat)) ∧ R i 0 = some (pl9 R i) ∧ zRows N kd len R (pl9 R i) 24
def rrN (z : Int) : Nat := if z < 1 then 80 else if z < 2 then 16 else 24
/-- the tape that is read -/
def tp9 (R : Nat → Int → Option Nat) (i : Nat) : Nat := (R i 5).getD 0
def zRdr (N : Nat) (kd len : Nat → Nat) (R : Nat → Int → Option Nat) (i : Nat) : Prop := i + 17 < N ∧ kd i = 7 ∧ (R i 0 = some (i + 1) ∧ zNet N kd len R (i + 1)) ∧ (R i 1 = some (i + 3) ∧ zBlocks N kd len R (i + 3)) ∧ (kd (i + 9) = 19 ∧ len (i + 9) = 3 ∧ R i 2 = some (i + 9)) ∧ (kd (i + 11) = 13 ∧ len (i + 11) = 4 ∧ R i 11 = some (i + 11)) ∧ (∀ z : Int, 0 ≤ z → z < 3 → R (i + 9) z = some (i + 12 + 2 * z.toNat) ∧ zRows N kd len R (i + 12 + 2 * z.toNat) (rrN z)) ∧ R i 5 = some (tp9 R i) ∧ tp9 R i < N ∧ kd (tp9 R i) = 12
def zWC (N : Nat) (kd len : Nat → Nat) (R : Nat → Int → Option Nat) (i : Nat) : Prop := (i + 261 < N ∧ kd i = 10) ∧ (R i 0 = some (i + 1) ∧ zTd N kd len R (i + 1)) ∧ (kd (i + 35) = 20 ∧ len (i + 35) = 3 ∧ R i 1 = some (i + 35)) ∧ (∀ z : Int, 0 ≤ z → z < 3 → R (i + 35) z = some (i + 36 + 34 * z.toNat) ∧ zTd N kd len R (i + 36 + 34 * z.toNat)) ∧ (kd (i + 138) = 15 ∧ len (i + 138) = 3 ∧ R i 2 = some (i + 138)) ∧ (R i 3 = some (i + 139) ∧ zRdr N kd len R (i + 139)) ∧ (R i 4 = some (i + 157) ∧ R i 5 = some (i + 204) ∧ R i 6 = some (i + 206) ∧ zLaws N kd len R (i + 157)) ∧ (R i 7 = some (i + 246) ∧ zFill N kd len R (i + 246)) ∧ R i 8 = some (i + 260) ∧ zLedger N kd len R (i + 260)
section ZW
variable {N : Nat} {kd len : Nat → Nat} {R R1 : Nat → Int → Option Nat} {i : Nat}
theorem zW_n (h : zWC N kd len R i) : i < N := by have := h.1.1; omega
theorem zW_k (h : zWC N kd len R i) : kd i = 10 := h.1.2
theorem zW_td (h : zWC N kd len R i) : R i 0 = some (i + 1) ∧ zTd N kd len R (i + 1) := h.2.1
theorem zW_im (h : zWC N kd len R i) : kd (i + 35) = 20 ∧ len (i + 35) = 3 ∧ R i 1 = some (i + 35) := h.2.2.1
theorem zW_imz (h : zWC N kd len R i) {z : Int} (h0 : 0 ≤ z) (h1 : z < 3) : R (i + 35) z = some (i + 36 + 34 * z.toNat) ∧ zTd N kd len R (i + 36 + 34 * z.toNat) := h.2.2.2.1 z h0 h1
theorem zW_n35 (h : zWC N kd len R i) : i + 35 < N := by have := h.1.1; omega
theorem zW_n138 (h : zWC N kd len R i) : i + 138 < N := by have := h.1.1; omega
theorem zW_bl (h : zWC N kd len R i) : kd (i + 138) = 15 ∧ len (i + 138) = 3 ∧ R i 2 = some (i + 138) := h.2.2.2.2.1
theorem zW_rd (h : zWC N kd len R i) : R i 3 = some (i + 139) ∧ zRdr N kd len R (i + 139) := h.2.2.2.2.2.1
theorem zW_lw (h : zWC N kd len R i) : R i 4 = some (i + 157) ∧ R i 5 = some (i + 204) ∧ R i 6 = some (i + 206) ∧ zLaws N kd len R (i + 157) := h.2.2.2.2.2.2.1
theorem zW_fi (h : zWC N kd len R i) : R i 7 = some (i + 246) ∧ zFill N kd len R (i + 246) := h.2.2.2.2.2.2.2.1
theorem zW_sp (h : zWC N kd len R i) : R i 8 = some (i + 260) ∧ zLedger N kd len R (i + 260) := h.2.2.2.2.2.2.2.2
theorem zTd_U (h : zTd N kd len R i) (e : ∀ z, i ≤ z → z ≤ i + 33 → R1 z = R z) : zTd N kd len R1 i := by
  obtain ⟨h1, h2, h3, h4, h5, h6, h7⟩ := h
  have e0 := e i (by omega) (by omega)
  refine ⟨?_, h2, ?_, ?_, ?_, fun z z0 z1 => ?_, fun z z0 z1 => ?_⟩
  · unfold zTold at h1 ⊢
    rw [e0]
    exact h1
  · rw [e0]
    exact h3
  · rw [e0]
    exact h4
  · rw [e0]
    exact h5
  · rw [e (i + 3) (by omega) (by omega), e (i + 4) (by omega) (by omega)]
    have g := h6 z z0 z1
    exact ⟨⟨g.1.1, zNet_U g.1.2 (e _ (by omega) (by omega))⟩, g.2.1, zBlocks_U g.2.2 (e _ (by omega) (by omega))⟩
  · rw [e (i + 5) (by omega) (by omega)]
    have g := h7 z z0 z1
    exact ⟨g.1, zRows_U g.2 (e _ (by omega) (by omega))⟩
/-- the chart's net and blocks change -/
theorem zWC_ch {a b : Nat} (h : zWC N kd len R i) (e : ∀ z, z ≠ i + 157 → R1 z = R z) (e2 : ∀ s, s ≠ 0 → s ≠ 1 → R1 (i + 157) s = R (i + 157) s) (ha : R1 (i + 157) 0 = some a) (hn : zNet N kd len R a) (hb : R1 (i + 157) 1 = some b) (hk : zBlocks N kd len R b) : zWC N kd len R1 i := by
  obtain ⟨h1, h2, h3, h4, h5, h6, h7, h8, h9⟩ := h
  have hr : zRdr N kd len R1 (i + 139) := by
    obtain ⟨r1, r2, r3, r4, r5, r6, r7, r8⟩ := h6.2
    have t9 : tp9 R1 (i + 139) = tp9 R (i + 139) := by unfold tp9; rw [e _ (by omega)]
    refine ⟨r1, r2, ?_, ?_, ?_, ?_, fun z z0 z1 => ?_, ?_⟩
    · rw [e (i + 139) (by omega)]
      exact ⟨r3.1, zNet_U r3.2 (e _ (by omega))⟩
    · rw [e (i + 139) (by omega)]
      exact ⟨r4.1, zBlocks_U r4.2 (e _ (by omega))⟩
    · rw [e (i + 139) (by omega)]
      exact r5
    · rw [e (i + 139) (by omega)]
      exact r6
    · rw [e (i + 139 + 9) (by omega)]
      exact ⟨(r7 z z0 z1).1, zRows_U (r7 z z0 z1).2 (e _ (by omega))⟩
    · rw [t9, e (i + 139) (by omega)]
      exact r8
  have hl : zLaws N kd len R1 (i + 157) := by
    obtain ⟨l1, l2, l3, l4, l5, l6, l7, l8, l9⟩ := h7.2.2.2
    have lc : zCourse N kd len R1 (i + 157) := by
      obtain ⟨c1, c2, c3, c4, c5, c6, c7⟩ := l1
      refine ⟨zChart_U c1 e e2 ha hn hb hk, c2, c3, c4, c5, ?_, ?_⟩
      · rw [e (i + 157 + 47) (by omega)]
        exact c6
      · rw [e (i + 157 + 47) (by omega)]
        exact c7
    refine ⟨lc, l2, l3, ?_, ?_, ?_, ?_, ?_, fun z z0 z1 => ?_⟩
    · rw [e (i + 157 + 49) (by omega)]
      exact l4
    · rw [e (i + 157 + 49) (by omega)]
      exact l5
    · rw [e (i + 157 + 49) (by omega)]
      exact l6
    · rw [e (i + 157 + 49) (by omega)]
      exact l7
    · rw [e (i + 157 + 49) (by omega)]
      exact l8
    · rw [e (i + 157 + 50) (by omega)]
      exact l9 z z0 z1
  have hf : zFill N kd len R1 (i + 246) := by
    obtain ⟨f1, f2, f3, f4, f5, f6, f7, f8⟩ := h8.2
    have p9 : pl9 R1 (i + 246) = pl9 R (i + 246) := by unfold pl9; rw [e _ (by omega)]
    have kp : pl9 R (i + 246) ≠ i + 157 := fun g => by
      have k1 := zRows_k0 f8
      have k2 := zChart_k0 h7.2.2.2.1.1
      rw [g, k2] at k1
      exact absurd k1 (by decide)
    refine ⟨f1, f2, ?_, ?_, ?_, fun z z0 z1 => ?_, ?_, ?_⟩
    · rw [e (i + 246) (by omega)]
      exact f3
    · rw [e (i + 246) (by omega)]
      exact f4
    · rw [e (i + 246) (by omega)]
      exact f5
    · rw [e (i + 246 + 3) (by omega)]
      exact ⟨(f6 z z0 z1).1, zLedger_U (f6 z z0 z1).2 (e _ (by omega))⟩
    · rw [p9, e (i + 246) (by omega)]
      exact f7
    · rw [p9]
      exact zRows_U f8 (e _ kp)
  refine ⟨h1, ?_, ?_, fun z z0 z1 => ?_, ?_, ⟨?_, hr⟩, ⟨?_, ?_, ?_, hl⟩, ⟨?_, hf⟩, ?_, zLedger_U h9.2 (e _ (by omega))⟩
  · rw [e i (by omega)]
    exact ⟨h2.1, zTd_U h2.2 (fun z _ _ => e z (by omega))⟩
  · rw [e i (by omega)]
    exact h3
  · rw [e (i + 35) (by omega)]
    exact ⟨(h4 z z0 z1).1, zTd_U (h4 z z0 z1).2 (fun y _ _ => e y (by omega))⟩
  · rw [e i (by omega)]
    exact h5
  · rw [e i (by omega)]
    exact h6.1
  · rw [e i (by omega)]
    exact h7.1
  · rw [e i (by omega)]
    exact h7.2.1
  · rw [e i (by omega)]
    exact h7.2.2.1
  · rw [e i (by omega)]
    exact h8.1
  · rw [e i (by omega)]
    exact h9.1
end ZW
