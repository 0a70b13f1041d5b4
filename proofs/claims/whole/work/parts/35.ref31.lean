/-! TAPE, FAULT -/
def oTp (X : Nat → Int → Int) (i : Nat) : Prop := 0 ≤ X (i + 2) 0 ∧ X (i + 2) 0 ≤ 600
def rFault (X : Nat → Int → Int) (i : Nat) (w : Int) : Int := if w = 0 then X (i + 3) 0 else if w = 1 then X (i + 4) 0 else -1
abbrev cX11_fault : ByteArray := prog_13_method_36_code
def yX11_fault : MethodName := ⟨RX11, "fault", "(I)I"⟩
theorem dX11_fault_0 : decode cX11_fault 0 = .ok (.aload_n 0, 1) := by decide +kernel
theorem dX11_fault_1 : decode cX11_fault 1 = .ok (.iconst 0, 1) := by decide +kernel
theorem dX11_fault_2 : decode cX11_fault 2 = .ok (.putfield 88, 3) := by decide +kernel
theorem dX11_fault_5 : decode cX11_fault 5 = .ok (.iload_n 1, 1) := by decide +kernel
theorem dX11_fault_6 : decode cX11_fault 6 = .ok (.ifCond .ne 12, 3) := by decide +kernel
theorem dX11_fault_9 : decode cX11_fault 9 = .ok (.aload_n 0, 1) := by decide +kernel
theorem dX11_fault_10 : decode cX11_fault 10 = .ok (.getfield 17, 3) := by decide +kernel
theorem dX11_fault_13 : decode cX11_fault 13 = .ok (.iconst 0, 1) := by decide +kernel
theorem dX11_fault_14 : decode cX11_fault 14 = .ok (.iaload, 1) := by decide +kernel
theorem dX11_fault_15 : decode cX11_fault 15 = .ok (.goto 18, 3) := by decide +kernel
theorem dX11_fault_18 : decode cX11_fault 18 = .ok (.iload_n 1, 1) := by decide +kernel
theorem dX11_fault_19 : decode cX11_fault 19 = .ok (.iconst 1, 1) := by decide +kernel
theorem dX11_fault_20 : decode cX11_fault 20 = .ok (.if_icmp .ne 12, 3) := by decide +kernel
theorem dX11_fault_23 : decode cX11_fault 23 = .ok (.aload_n 0, 1) := by decide +kernel
theorem dX11_fault_24 : decode cX11_fault 24 = .ok (.getfield 20, 3) := by decide +kernel
theorem dX11_fault_27 : decode cX11_fault 27 = .ok (.iconst 0, 1) := by decide +kernel
theorem dX11_fault_28 : decode cX11_fault 28 = .ok (.iaload, 1) := by decide +kernel
theorem dX11_fault_29 : decode cX11_fault 29 = .ok (.goto 4, 3) := by decide +kernel
theorem dX11_fault_32 : decode cX11_fault 32 = .ok (.iconst (-1), 1) := by decide +kernel
theorem dX11_fault_33 : decode cX11_fault 33 = .ok (.ireturn, 1) := by decide +kernel
theorem q_1291 : Cond.fieldLink RX11 20 RX11 "faultPlace" "[I" ∈ zTB := zmem 1291 (by decide +kernel) rfl
theorem q_1290 : Cond.fieldLink RX11 17 RX11 "fault" "[I" ∈ zTB := zmem 1290 (by decide +kernel) rfl
def F_X11_fault (i : Nat) (X Y : Nat → Int → Int) (R : Nat → Int → Option Nat) (a : Int) : Prop := (∀ i j, rI (X i j)) → (∀ i j, rL (Y i j)) → ∀ X1 : Nat → Int → Int, X1 = zU X (i) 0 (0) → (∀ i j, rI (X1 i j)) → (((¬ a = 0) → (((¬ a = 1) → ((-1) = rFault X i (a) ∧ pK X (X1) i)) ∧ ((¬ (¬ a = 1)) → (X1 (i + 4) (0) = rFault X i (a) ∧ pK X (X1) i)))) ∧ ((¬ (¬ a = 0)) → (X1 (i + 3) (0) = rFault X i (a) ∧ pK X (X1) i)))
set_option maxHeartbeats 4000000 in
set_option maxRecDepth 100000 in
theorem w_X11_fault {l : Launch} {D : va_G} {cy : Nat → ClassId} {bs N : Nat} {sa : Nat → Nat} {kd len : Nat → Nat} {X Y : Nat → Int → Int} {R : Nat → Int → Option Nat} {i : Nat} (hM : zM N kd len R i) (a : Int) (ha : rI a) (hF : F_X11_fault i X Y R a) : Met l yX11_fault (.code yX11_fault cX11_fault 2 (some .int) :: zTB) (zRm 0 0) (zPc D cy bs sa N kd len X Y R [.ref (bs + (i)), .int (zI (a))]) (zQi D cy bs N kd len (fun r st => st.2.1 = Y ∧ st.2.2 = R ∧ (r = rFault X i (a) ∧ pK X (st.1) i))) 0 0 (zA bs) := by
  refine zstart (by decide) (Nat.le_of_ble_eq_true rfl) ?_
  intro p e s m args below meth c ls C hE hH hr hlk hnm hl hargs
  have hF := hF hH.2.2.1 hH.2.2.2
  have hS : va_S (zA bs) s.heap s.heap [] := va_S.rf
  have hl : lv_has ls 2 [(0, .ref (bs + (i))), (1, .int (zI (a)))] := hl
  refine lv_aload_n C.1 C.2.1 dX11_fault_0 rfl (lv_at hl 0 rfl) ?_
  refine zd_iconst C dX11_fault_1 ?_
  refine zp11_0 C hH hS (zM_n0 hM) (zM_k0 hM) q_1287 (by decide) dX11_fault_2 (fun H locs hH hS => ?_)
  obtain ⟨X1, eX1⟩ : ∃ z, z = zU X (i) 0 (0) := ⟨_, rfl⟩
  rw [← eX1] at hH
  have hF := hF X1 eX1 hH.2.2.1
  refine lv_iload_n C.1 C.2.1 dX11_fault_5 rfl (lv_at hl 1 rfl) ?_
  refine zd_if_ne C ha 18 dX11_fault_6 (by decide) (fun c2 => ?_) (fun c2 => ?_)
  · have hF := hF.1 c2
    refine lv_iload_n C.1 C.2.1 dX11_fault_18 rfl (lv_at hl 1 rfl) ?_
    refine zd_iconst C dX11_fault_19 ?_
    refine zd_icmp_ne C ha (by decide) 32 dX11_fault_20 (by decide) (fun c3 => ?_) (fun c3 => ?_)
    · have hF := hF.1 c3
      refine zd_iconst C dX11_fault_32 ?_
      exact zd_iret C hr hlk hH hS (by decide) (⟨rfl, rfl, hF⟩) dX11_fault_33
    · have hF := hF.2 c3
      refine lv_aload_n C.1 C.2.1 dX11_fault_23 rfl (lv_at hl 0 rfl) ?_
      refine zg11_4 C hH (zM_n0 hM) (zM_k0 hM) q_1291 (zM_r4 hM) dX11_fault_24 ?_
      refine zd_iconst C dX11_fault_27 ?_
      refine zd_iald C hH (zM_n4 hM) (zM_k4 hM) (by decide) (by rw [zM_l4 hM]; decide) (by rw [zM_l4 hM]; decide) dX11_fault_28 ?_
      refine lv_goto (tgt := 33) C.1 C.2.1 dX11_fault_29 (by decide) ?_
      exact zd_iret C hr hlk hH hS (hH.2.2.1 _ _) (⟨rfl, rfl, hF⟩) dX11_fault_33
  · have hF := hF.2 c2
    refine lv_aload_n C.1 C.2.1 dX11_fault_9 rfl (lv_at hl 0 rfl) ?_
    refine zg11_3 C hH (zM_n0 hM) (zM_k0 hM) q_1290 (zM_r3 hM) dX11_fault_10 ?_
    refine zd_iconst C dX11_fault_13 ?_
    refine zd_iald C hH (zM_n3 hM) (zM_k3 hM) (by decide) (by rw [zM_l3 hM]; decide) (by rw [zM_l3 hM]; decide) dX11_fault_14 ?_
    refine lv_goto (tgt := 33) C.1 C.2.1 dX11_fault_15 (by decide) ?_
    exact zd_iret C hr hlk hH hS (hH.2.2.1 _ _) (⟨rfl, rfl, hF⟩) dX11_fault_33
theorem v_X11_fault {X Y : Nat → Int → Int} {R : Nat → Int → Option Nat} {i : Nat} (a : Int) (ha : rI a) : F_X11_fault i X Y R a := by
  unfold F_X11_fault
  intro hX hY X1 e1 xr1
  have o1 : ∀ z, z ≠ i → X1 z = X z := fun z h => by rw [e1, zU_o h]
  have p : pK X X1 i := ⟨fun z h _ => o1 z h, by rw [e1, zU_s]⟩
  unfold rFault
  rw [o1 (i + 3) (by omega), o1 (i + 4) (by omega)]
  refine ⟨fun c => ⟨fun c1 => ⟨by rw [if_neg c, if_neg c1], p⟩, fun c1 => ⟨by rw [if_neg c, if_pos (Classical.not_not.mp c1)], p⟩⟩, fun c => ⟨by rw [if_pos (Classical.not_not.mp c)], p⟩⟩
theorem c_X11_fault {l : Launch} {D : va_G} {cy : Nat → ClassId} {bs N : Nat} {sa : Nat → Nat} {kd len : Nat → Nat} {X Y : Nat → Int → Int} {R : Nat → Int → Option Nat} {i : Nat} (hM : zM N kd len R i) (a : Int) (ha : rI a) : Met l yX11_fault (.code yX11_fault cX11_fault 2 (some .int) :: zTB) (zRm 0 0) (zPc D cy bs sa N kd len X Y R [.ref (bs + (i)), .int (zI (a))]) (zQi D cy bs N kd len (fun r st => st.2.1 = Y ∧ st.2.2 = R ∧ (r = rFault X i (a) ∧ pK X (st.1) i))) 0 0 (zA bs) := w_X11_fault hM a ha (v_X11_fault a ha)
abbrev cX11_end : ByteArray := prog_13_method_13_code
def yX11_end : MethodName := ⟨RX11, "end", "(I)I"⟩
theorem dX11_end_0 : decode cX11_end 0 = .ok (.aload_n 0, 1) := by decide +kernel
theorem dX11_end_1 : decode cX11_end 1 = .ok (.iconst 0, 1) := by decide +kernel
theorem dX11_end_2 : decode cX11_end 2 = .ok (.putfield 88, 3) := by decide +kernel
theorem dX11_end_5 : decode cX11_end 5 = .ok (.iload_n 1, 1) := by decide +kernel
theorem dX11_end_6 : decode cX11_end 6 = .ok (.iconst 0, 1) := by decide +kernel
theorem dX11_end_7 : decode cX11_end 7 = .ok (.aload_n 0, 1) := by decide +kernel
theorem dX11_end_8 : decode cX11_end 8 = .ok (.getfield 13, 3) := by decide +kernel
theorem dX11_end_11 : decode cX11_end 11 = .ok (.iconst 0, 1) := by decide +kernel
theorem dX11_end_12 : decode cX11_end 12 = .ok (.iaload, 1) := by decide +kernel
theorem dX11_end_13 : decode cX11_end 13 = .ok (.invokestatic 100, 3) := by decide +kernel
theorem dX11_end_16 : decode cX11_end 16 = .ok (.ifCond .ne 5, 3) := by decide +kernel
theorem dX11_end_19 : decode cX11_end 19 = .ok (.iconst (-1), 1) := by decide +kernel
theorem dX11_end_20 : decode cX11_end 20 = .ok (.ireturn, 1) := by decide +kernel
theorem dX11_end_21 : decode cX11_end 21 = .ok (.aload_n 0, 1) := by decide +kernel
theorem dX11_end_22 : decode cX11_end 22 = .ok (.getfield 13, 3) := by decide +kernel
theorem dX11_end_25 : decode cX11_end 25 = .ok (.iconst 0, 1) := by decide +kernel
theorem dX11_end_26 : decode cX11_end 26 = .ok (.iload_n 1, 1) := by decide +kernel
theorem dX11_end_27 : decode cX11_end 27 = .ok (.iastore, 1) := by decide +kernel
theorem dX11_end_28 : decode cX11_end 28 = .ok (.iload_n 1, 1) := by decide +kernel
theorem dX11_end_29 : decode cX11_end 29 = .ok (.ireturn, 1) := by decide +kernel
theorem q_1289 : Cond.fieldLink RX11 13 RX11 "size" "[I" ∈ zTB := zmem 1289 (by decide +kernel) rfl
def F_X11_end (i : Nat) (X Y : Nat → Int → Int) (R : Nat → Int → Option Nat) (a : Int) : Prop := (∀ i j, rI (X i j)) → (∀ i j, rL (Y i j)) → ∀ X1 : Nat → Int → Int, X1 = zU X (i) 0 (0) → (∀ i j, rI (X1 i j)) → ((((mIn (a) ((0 : Int)) (X1 (i + 2) (0))) = true) → (∀ X3 : Nat → Int → Int, X3 = zU X1 (i + 2) (0) (a) → (∀ i j, rI (X3 i j)) → (a = (if mIn (a) 0 (X (i + 2) 0) then a else -1) ∧ (X3) = (if mIn (a) 0 (X (i + 2) 0) then zU (zU X i 0 0) (i + 2) 0 (a) else zU X i 0 0)))) ∧ (((mIn (a) ((0 : Int)) (X1 (i + 2) (0))) = false) → ((-1) = (if mIn (a) 0 (X (i + 2) 0) then a else -1) ∧ (X1) = (if mIn (a) 0 (X (i + 2) 0) then zU (zU X i 0 0) (i + 2) 0 (a) else zU X i 0 0))))
set_option maxHeartbeats 4000000 in
set_option maxRecDepth 100000 in
theorem w_X11_end {l : Launch} {D : va_G} {cy : Nat → ClassId} {bs N : Nat} {sa : Nat → Nat} {kd len : Nat → Nat} {X Y : Nat → Int → Int} {R : Nat → Int → Option Nat} {i : Nat} (hM : zM N kd len R i) (a : Int) (ha : rI a) (hF : F_X11_end i X Y R a) : Met l yX11_end (.code yX11_end cX11_end 2 (some .int) :: zTB) (zRm 1 22) (zPc D cy bs sa N kd len X Y R [.ref (bs + (i)), .int (zI (a))]) (zQi D cy bs N kd len (fun r st => st.2.1 = Y ∧ st.2.2 = R ∧ (r = (if mIn (a) 0 (X (i + 2) 0) then a else -1) ∧ (st.1) = (if mIn (a) 0 (X (i + 2) 0) then zU (zU X i 0 0) (i + 2) 0 (a) else zU X i 0 0)))) 0 0 (zA bs) := by
  refine zstart (by decide) (Nat.le_of_ble_eq_true rfl) ?_
  intro p e s m args below meth c ls C hE hH hr hlk hnm hl hargs
  have hF := hF hH.2.2.1 hH.2.2.2
  have hS : va_S (zA bs) s.heap s.heap [] := va_S.rf
  have hl : lv_has ls 2 [(0, .ref (bs + (i))), (1, .int (zI (a)))] := hl
  refine lv_aload_n C.1 C.2.1 dX11_end_0 rfl (lv_at hl 0 rfl) ?_
  refine zd_iconst C dX11_end_1 ?_
  refine zp11_0 C hH hS (zM_n0 hM) (zM_k0 hM) q_1287 (by decide) dX11_end_2 (fun H locs hH hS => ?_)
  obtain ⟨X1, eX1⟩ : ∃ z, z = zU X (i) 0 (0) := ⟨_, rfl⟩
  rw [← eX1] at hH
  have hF := hF X1 eX1 hH.2.2.1
  refine lv_iload_n C.1 C.2.1 dX11_end_5 rfl (lv_at hl 1 rfl) ?_
  refine zd_iconst C dX11_end_6 ?_
  refine lv_aload_n C.1 C.2.1 dX11_end_7 rfl (lv_at hl 0 rfl) ?_
  refine zg11_2 C hH (zM_n0 hM) (zM_k0 hM) q_1289 (zM_r2 hM) dX11_end_8 ?_
  refine zd_iconst C dX11_end_11 ?_
  refine zd_iald C hH (zM_n2 hM) (zM_k2 hM) (by decide) (by rw [zM_l2 hM]; decide) (by rw [zM_l2 hM]; decide) dX11_end_12 ?_
  refine zgoi (zrunS (As := [.int (zI (a)), .int (zI (0)), .int (zI (X1 (i + 2) (0)))]) (rest := []) C hE hH hS hl.1 (c_X11_in (l := l)  (a) ha (0) (by decide) (X1 (i + 2) (0)) (hH.2.2.1 _ _)) k_RX11_100 ⟨Nat.le_of_ble_eq_true rfl, Nat.le_of_ble_eq_true rfl⟩ rfl (Nat.le_of_ble_eq_true rfl) dX11_end_13 ⟨Nat.zero_le _, Nat.zero_le _⟩) hS (fun rq Xq Yq Rq H locs hrq hq hH hS => ?_)
  obtain ⟨h91, h92⟩ := hq
  have h93 : Xq = X1 := congrArg (fun z => z.1) h92
  have h94 : Yq = Y := congrArg (fun z => z.2.1) h92
  have h95 : Rq = R := congrArg (fun z => z.2.2) h92
  rw [h93, h94, h95] at hH
  subst h91
  refine zd_ifB_ne C 21 dX11_end_16 (by decide) (fun c2 => ?_) (fun c2 => ?_)
  · have hF := hF.1 c2
    refine lv_aload_n C.1 C.2.1 dX11_end_21 rfl (lv_at hl 0 rfl) ?_
    refine zg11_2 C hH (zM_n0 hM) (zM_k0 hM) q_1289 (zM_r2 hM) dX11_end_22 ?_
    refine zd_iconst C dX11_end_25 ?_
    refine lv_iload_n C.1 C.2.1 dX11_end_26 rfl (lv_at hl 1 rfl) ?_
    refine zd_iast C hH hS (zM_n2 hM) (zM_k2 hM) (by decide) (by rw [zM_l2 hM]; decide) (by rw [zM_l2 hM]; decide) ha dX11_end_27 (fun H locs hH hS => ?_)
    obtain ⟨X3, eX3⟩ : ∃ z, z = zU X1 (i + 2) (0) (a) := ⟨_, rfl⟩
    rw [← eX3] at hH
    have hF := hF X3 eX3 hH.2.2.1
    refine lv_iload_n C.1 C.2.1 dX11_end_28 rfl (lv_at hl 1 rfl) ?_
    exact zd_iret C hr hlk hH hS ha (⟨rfl, rfl, hF⟩) dX11_end_29
  · have hF := hF.2 c2
    refine zd_iconst C dX11_end_19 ?_
    exact zd_iret C hr hlk hH hS (by decide) (⟨rfl, rfl, hF⟩) dX11_end_20
theorem v_X11_end {X Y : Nat → Int → Int} {R : Nat → Int → Option Nat} {i : Nat} (a : Int) (ha : rI a) (hp : oTp X i) : F_X11_end i X Y R a := by
  unfold F_X11_end
  intro hX hY X1 e1 xr1
  have o1 : ∀ z, z ≠ i → X1 z = X z := fun z h => by rw [e1, zU_o h]
  rw [o1 (i + 2) (by omega)]
  refine ⟨fun c X3 e3 _ => ⟨by rw [c]; rfl, by rw [c, e3, e1]; rfl⟩, fun c => ⟨by rw [c]; rfl, by rw [c, e1]; rfl⟩⟩
theorem c_X11_end {l : Launch} {D : va_G} {cy : Nat → ClassId} {bs N : Nat} {sa : Nat → Nat} {kd len : Nat → Nat} {X Y : Nat → Int → Int} {R : Nat → Int → Option Nat} {i : Nat} (hM : zM N kd len R i) (a : Int) (ha : rI a) (hp : oTp X i) : Met l yX11_end (.code yX11_end cX11_end 2 (some .int) :: zTB) (zRm 1 22) (zPc D cy bs sa N kd len X Y R [.ref (bs + (i)), .int (zI (a))]) (zQi D cy bs N kd len (fun r st => st.2.1 = Y ∧ st.2.2 = R ∧ (r = (if mIn (a) 0 (X (i + 2) 0) then a else -1) ∧ (st.1) = (if mIn (a) 0 (X (i + 2) 0) then zU (zU X i 0 0) (i + 2) 0 (a) else zU X i 0 0)))) 0 0 (zA bs) := w_X11_end hM a ha (v_X11_end a ha hp)
def rNet (X : Nat → Int → Int) (i : Nat) (n w : Int) : Int := if mIs i X 0 n then (if mIn w 0 6 then X (i + 6) (13 * n + w) else if mIn w 10 (10 + X (i + 6) (13 * n + 6) - 1) then X (i + 6) (13 * n + (7 + w - 10)) else -1) else -1
abbrev cX11_net : ByteArray := prog_13_method_52_code
def yX11_net : MethodName := ⟨RX11, "net", "(II)I"⟩
theorem dX11_net_0 : decode cX11_net 0 = .ok (.aload_n 0, 1) := by decide +kernel
theorem dX11_net_1 : decode cX11_net 1 = .ok (.iconst 0, 1) := by decide +kernel
theorem dX11_net_2 : decode cX11_net 2 = .ok (.putfield 88, 3) := by decide +kernel
theorem dX11_net_5 : decode cX11_net 5 = .ok (.aload_n 0, 1) := by decide +kernel
theorem dX11_net_6 : decode cX11_net 6 = .ok (.iload_n 1, 1) := by decide +kernel
theorem dX11_net_7 : decode cX11_net 7 = .ok (.invokevirtual 304, 3) := by decide +kernel
theorem dX11_net_10 : decode cX11_net 10 = .ok (.ifCond .ne 5, 3) := by decide +kernel
theorem dX11_net_13 : decode cX11_net 13 = .ok (.iconst (-1), 1) := by decide +kernel
theorem dX11_net_14 : decode cX11_net 14 = .ok (.ireturn, 1) := by decide +kernel
theorem dX11_net_15 : decode cX11_net 15 = .ok (.iload_n 2, 1) := by decide +kernel
theorem dX11_net_16 : decode cX11_net 16 = .ok (.iconst 0, 1) := by decide +kernel
theorem dX11_net_17 : decode cX11_net 17 = .ok (.bipush 6, 2) := by decide +kernel
theorem dX11_net_19 : decode cX11_net 19 = .ok (.invokestatic 100, 3) := by decide +kernel
theorem dX11_net_22 : decode cX11_net 22 = .ok (.ifCond .eq 11, 3) := by decide +kernel
theorem dX11_net_25 : decode cX11_net 25 = .ok (.aload_n 0, 1) := by decide +kernel
theorem dX11_net_26 : decode cX11_net 26 = .ok (.iload_n 2, 1) := by decide +kernel
theorem dX11_net_27 : decode cX11_net 27 = .ok (.invokevirtual 280, 3) := by decide +kernel
theorem dX11_net_30 : decode cX11_net 30 = .ok (.goto 38, 3) := by decide +kernel
theorem dX11_net_33 : decode cX11_net 33 = .ok (.iload_n 2, 1) := by decide +kernel
theorem dX11_net_34 : decode cX11_net 34 = .ok (.bipush 10, 2) := by decide +kernel
theorem dX11_net_36 : decode cX11_net 36 = .ok (.bipush 10, 2) := by decide +kernel
theorem dX11_net_38 : decode cX11_net 38 = .ok (.aload_n 0, 1) := by decide +kernel
theorem dX11_net_39 : decode cX11_net 39 = .ok (.bipush 6, 2) := by decide +kernel
theorem dX11_net_41 : decode cX11_net 41 = .ok (.invokevirtual 280, 3) := by decide +kernel
theorem dX11_net_44 : decode cX11_net 44 = .ok (.iadd, 1) := by decide +kernel
theorem dX11_net_45 : decode cX11_net 45 = .ok (.iconst 1, 1) := by decide +kernel
theorem dX11_net_46 : decode cX11_net 46 = .ok (.isub, 1) := by decide +kernel
theorem dX11_net_47 : decode cX11_net 47 = .ok (.invokestatic 100, 3) := by decide +kernel
theorem dX11_net_50 : decode cX11_net 50 = .ok (.ifCond .eq 17, 3) := by decide +kernel
theorem dX11_net_53 : decode cX11_net 53 = .ok (.aload_n 0, 1) := by decide +kernel
theorem dX11_net_54 : decode cX11_net 54 = .ok (.bipush 7, 2) := by decide +kernel
theorem dX11_net_56 : decode cX11_net 56 = .ok (.iload_n 2, 1) := by decide +kernel
theorem dX11_net_57 : decode cX11_net 57 = .ok (.iadd, 1) := by decide +kernel
theorem dX11_net_58 : decode cX11_net 58 = .ok (.bipush 10, 2) := by decide +kernel
theorem dX11_net_60 : decode cX11_net 60 = .ok (.isub, 1) := by decide +kernel
theorem dX11_net_61 : decode cX11_net 61 = .ok (.invokevirtual 280, 3) := by decide +kernel
theorem dX11_net_64 : decode cX11_net 64 = .ok (.goto 4, 3) := by decide +kernel
theorem dX11_net_67 : decode cX11_net 67 = .ok (.iconst (-1), 1) := by decide +kernel
theorem dX11_net_68 : decode cX11_net 68 = .ok (.ireturn, 1) := by decide +kernel
def F_X11_net (i : Nat) (X Y : Nat → Int → Int) (R : Nat → Int → Option Nat) (a : Int) (b : Int) : Prop := (∀ i j, rI (X i j)) → (∀ i j, rL (Y i j)) → ∀ X1 : Nat → Int → Int, X1 = zU X (i) 0 (0) → (∀ i j, rI (X1 i j)) → ((0 ≤ X1 (i + 5) 0) ∧ (∀ r4 : Bool, ∀ X3 : Nat → Int → Int, (∀ i j, rI (X3 i j)) → (r4 = mIs i X1 0 (a) ∧ X3 = zU X1 i 24 (a)) → (((r4 = true) → ((((mIn (b) ((0 : Int)) ((6 : Int))) = false) → ((oN X3 i ∧ 0 ≤ (6 : Int) ∧ (6 : Int) ≤ 12) ∧ (rI (mG X3 i ((6 : Int))) → ((rI ((10 + (mG X3 i ((6 : Int)))) - 1)) ∧ ((((mIn (b) ((10 : Int)) ((10 + (mG X3 i ((6 : Int)))) - 1)) = false) → ((-1) = rNet X i (a) (b) ∧ pK X (X3) i)) ∧ (((mIn (b) ((10 : Int)) ((10 + (mG X3 i ((6 : Int)))) - 1)) = true) → ((rI ((7 + b) - 10)) ∧ ((oN X3 i ∧ 0 ≤ (7 + b) - 10 ∧ (7 + b) - 10 ≤ 12) ∧ (rI (mG X3 i ((7 + b) - 10)) → (mG X3 i ((7 + b) - 10) = rNet X i (a) (b) ∧ pK X (X3) i)))))))))) ∧ (((mIn (b) ((0 : Int)) ((6 : Int))) = true) → ((oN X3 i ∧ 0 ≤ b ∧ b ≤ 12) ∧ (rI (mG X3 i (b)) → (mG X3 i (b) = rNet X i (a) (b) ∧ pK X (X3) i)))))) ∧ ((r4 = false) → ((-1) = rNet X i (a) (b) ∧ pK X (X3) i)))))
set_option maxHeartbeats 4000000 in
set_option maxRecDepth 100000 in
theorem w_X11_net {l : Launch} {D : va_G} {cy : Nat → ClassId} {bs N : Nat} {sa : Nat → Nat} {kd len : Nat → Nat} {X Y : Nat → Int → Int} {R : Nat → Int → Option Nat} {i : Nat} (hM : zM N kd len R i) (a : Int) (ha : rI a) (b : Int) (hb : rI b) (hF : F_X11_net i X Y R a b) : Met l yX11_net (.code yX11_net cX11_net 3 (some .int) :: zTB) (zRm 3 65) (zPc D cy bs sa N kd len X Y R [.ref (bs + (i)), .int (zI (a)), .int (zI (b))]) (zQi D cy bs N kd len (fun r st => st.2.1 = Y ∧ st.2.2 = R ∧ (r = rNet X i (a) (b) ∧ pK X (st.1) i))) 0 0 (zA bs) := by
  refine zstart (by decide) (Nat.le_of_ble_eq_true rfl) ?_
  intro p e s m args below meth c ls C hE hH hr hlk hnm hl hargs
  have hF := hF hH.2.2.1 hH.2.2.2
  have hS : va_S (zA bs) s.heap s.heap [] := va_S.rf
  have hl : lv_has ls 3 [(0, .ref (bs + (i))), (1, .int (zI (a))), (2, .int (zI (b)))] := hl
  refine lv_aload_n C.1 C.2.1 dX11_net_0 rfl (lv_at hl 0 rfl) ?_
  refine zd_iconst C dX11_net_1 ?_
  refine zp11_0 C hH hS (zM_n0 hM) (zM_k0 hM) q_1287 (by decide) dX11_net_2 (fun H locs hH hS => ?_)
  obtain ⟨X1, eX1⟩ : ∃ z, z = zU X (i) 0 (0) := ⟨_, rfl⟩
  rw [← eX1] at hH
  have hF := hF X1 eX1 hH.2.2.1
  refine lv_aload_n C.1 C.2.1 dX11_net_5 rfl (lv_at hl 0 rfl) ?_
  refine lv_iload_n C.1 C.2.1 dX11_net_6 rfl (lv_at hl 1 rfl) ?_
  obtain ⟨o2, hF⟩ := hF
  refine zgoi (zrunV (As := [.int (zI (a))]) (rest := []) C hE hH hS hl.1 (c_X11_hasNet (l := l) hM (a) ha o2) k_RX11_304 ⟨Nat.le_of_ble_eq_true rfl, Nat.le_of_ble_eq_true rfl⟩ (zM_n0 hM) (zM_k0 hM) rfl rfl rfl (Nat.le_of_ble_eq_true rfl) dX11_net_7 ⟨Nat.zero_le _, Nat.zero_le _⟩) hS (fun rq X3 Yq Rq H locs hrq hq hH hS => ?_)
  obtain ⟨h9Y, h9R, hq⟩ := hq
  dsimp only at h9Y h9R
  rw [h9Y, h9R] at hH
  obtain ⟨r4, h91, hq⟩ := hq
  subst h91
  have hF := hF r4 X3 hH.2.2.1 hq
  refine zd_ifB_ne C 15 dX11_net_10 (by decide) (fun c5 => ?_) (fun c5 => ?_)
  · have hF := hF.1 c5
    refine lv_iload_n C.1 C.2.1 dX11_net_15 rfl (lv_at hl 2 rfl) ?_
    refine zd_iconst C dX11_net_16 ?_
    refine zd_bipush C (by decide) dX11_net_17 ?_
    refine zgoi (zrunS (As := [.int (zI (b)), .int (zI (0)), .int (zI (6))]) (rest := []) C hE hH hS hl.1 (c_X11_in (l := l)  (b) hb (0) (by decide) (6) (by decide)) k_RX11_100 ⟨Nat.le_of_ble_eq_true rfl, Nat.le_of_ble_eq_true rfl⟩ rfl (Nat.le_of_ble_eq_true rfl) dX11_net_19 ⟨Nat.zero_le _, Nat.zero_le _⟩) hS (fun rq Xq Yq Rq H locs hrq hq hH hS => ?_)
    obtain ⟨h91, h92⟩ := hq
    have h93 : Xq = X3 := congrArg (fun z => z.1) h92
    have h94 : Yq = Y := congrArg (fun z => z.2.1) h92
    have h95 : Rq = R := congrArg (fun z => z.2.2) h92
    rw [h93, h94, h95] at hH
    subst h91
    refine zd_ifB_eq C 33 dX11_net_22 (by decide) (fun c6 => ?_) (fun c6 => ?_)
    · have hF := hF.1 c6
      refine lv_iload_n C.1 C.2.1 dX11_net_33 rfl (lv_at hl 2 rfl) ?_
      refine zd_bipush C (by decide) dX11_net_34 ?_
      refine zd_bipush C (by decide) dX11_net_36 ?_
      refine lv_aload_n C.1 C.2.1 dX11_net_38 rfl (lv_at hl 0 rfl) ?_
      refine zd_bipush C (by decide) dX11_net_39 ?_
      obtain ⟨o7, hF⟩ := hF
      refine zgoi (zrunV (As := [.int (zI (6))]) (rest := [.int (zI (10)), .int (zI (10)), .int (zI (b))]) C hE hH hS hl.1 (c_X11_ofNet (l := l) hM (6) (by decide) o7) k_RX11_280 ⟨Nat.le_of_ble_eq_true rfl, Nat.le_of_ble_eq_true rfl⟩ (zM_n0 hM) (zM_k0 hM) rfl rfl rfl (Nat.le_of_ble_eq_true rfl) dX11_net_41 ⟨Nat.zero_le _, Nat.zero_le _⟩) hS (fun rq Xq Yq Rq H locs hrq hq hH hS => ?_)
      obtain ⟨h91, h92⟩ := hq
      have h93 : Xq = X3 := congrArg (fun z => z.1) h92
      have h94 : Yq = Y := congrArg (fun z => z.2.1) h92
      have h95 : Rq = R := congrArg (fun z => z.2.2) h92
      rw [h93, h94, h95] at hH
      subst h91
      have hr8 := hrq
      have hF := hF hr8
      refine zd_iadd C dX11_net_44 ?_
      refine zd_iconst C dX11_net_45 ?_
      refine zd_isub C dX11_net_46 ?_
      obtain ⟨o9, hF⟩ := hF
      refine zgoi (zrunS (As := [.int (zI (b)), .int (zI (10)), .int (zI ((10 + (mG X3 i ((6 : Int)))) - 1))]) (rest := []) C hE hH hS hl.1 (c_X11_in (l := l)  (b) hb (10) (by decide) ((10 + (mG X3 i ((6 : Int)))) - 1) o9) k_RX11_100 ⟨Nat.le_of_ble_eq_true rfl, Nat.le_of_ble_eq_true rfl⟩ rfl (Nat.le_of_ble_eq_true rfl) dX11_net_47 ⟨Nat.zero_le _, Nat.zero_le _⟩) hS (fun rq Xq Yq Rq H locs hrq hq hH hS => ?_)
      obtain ⟨h91, h92⟩ := hq
      have h93 : Xq = X3 := congrArg (fun z => z.1) h92
      have h94 : Yq = Y := congrArg (fun z => z.2.1) h92
      have h95 : Rq = R := congrArg (fun z => z.2.2) h92
      rw [h93, h94, h95] at hH
      subst h91
      refine zd_ifB_eq C 67 dX11_net_50 (by decide) (fun c10 => ?_) (fun c10 => ?_)
      · have hF := hF.1 c10
        refine zd_iconst C dX11_net_67 ?_
        exact zd_iret C hr hlk hH hS (by decide) (⟨rfl, rfl, hF⟩) dX11_net_68
      · have hF := hF.2 c10
        refine lv_aload_n C.1 C.2.1 dX11_net_53 rfl (lv_at hl 0 rfl) ?_
        refine zd_bipush C (by decide) dX11_net_54 ?_
        refine lv_iload_n C.1 C.2.1 dX11_net_56 rfl (lv_at hl 2 rfl) ?_
        refine zd_iadd C dX11_net_57 ?_
        refine zd_bipush C (by decide) dX11_net_58 ?_
        refine zd_isub C dX11_net_60 ?_
        obtain ⟨o11, hF⟩ := hF
        obtain ⟨o12, hF⟩ := hF
        refine zgoi (zrunV (As := [.int (zI ((7 + b) - 10))]) (rest := []) C hE hH hS hl.1 (c_X11_ofNet (l := l) hM ((7 + b) - 10) o11 o12) k_RX11_280 ⟨Nat.le_of_ble_eq_true rfl, Nat.le_of_ble_eq_true rfl⟩ (zM_n0 hM) (zM_k0 hM) rfl rfl rfl (Nat.le_of_ble_eq_true rfl) dX11_net_61 ⟨Nat.zero_le _, Nat.zero_le _⟩) hS (fun rq Xq Yq Rq H locs hrq hq hH hS => ?_)
        obtain ⟨h91, h92⟩ := hq
        have h93 : Xq = X3 := congrArg (fun z => z.1) h92
        have h94 : Yq = Y := congrArg (fun z => z.2.1) h92
        have h95 : Rq = R := congrArg (fun z => z.2.2) h92
        rw [h93, h94, h95] at hH
        subst h91
        have hr13 := hrq
        have hF := hF hr13
        refine lv_goto (tgt := 68) C.1 C.2.1 dX11_net_64 (by decide) ?_
        exact zd_iret C hr hlk hH hS hr13 (⟨rfl, rfl, hF⟩) dX11_net_68
    · have hF := hF.2 c6
      refine lv_aload_n C.1 C.2.1 dX11_net_25 rfl (lv_at hl 0 rfl) ?_
      refine lv_iload_n C.1 C.2.1 dX11_net_26 rfl (lv_at hl 2 rfl) ?_
      obtain ⟨o14, hF⟩ := hF
      refine zgoi (zrunV (As := [.int (zI (b))]) (rest := []) C hE hH hS hl.1 (c_X11_ofNet (l := l) hM (b) hb o14) k_RX11_280 ⟨Nat.le_of_ble_eq_true rfl, Nat.le_of_ble_eq_true rfl⟩ (zM_n0 hM) (zM_k0 hM) rfl rfl rfl (Nat.le_of_ble_eq_true rfl) dX11_net_27 ⟨Nat.zero_le _, Nat.zero_le _⟩) hS (fun rq Xq Yq Rq H locs hrq hq hH hS => ?_)
      obtain ⟨h91, h92⟩ := hq
      have h93 : Xq = X3 := congrArg (fun z => z.1) h92
      have h94 : Yq = Y := congrArg (fun z => z.2.1) h92
      have h95 : Rq = R := congrArg (fun z => z.2.2) h92
      rw [h93, h94, h95] at hH
      subst h91
      have hr15 := hrq
      have hF := hF hr15
      refine lv_goto (tgt := 68) C.1 C.2.1 dX11_net_30 (by decide) ?_
      exact zd_iret C hr hlk hH hS hr15 (⟨rfl, rfl, hF⟩) dX11_net_68
  · have hF := hF.2 c5
    refine zd_iconst C dX11_net_13 ?_
    exact zd_iret C hr hlk hH hS (by decide) (⟨rfl, rfl, hF⟩) dX11_net_14
theorem v_X11_net {X Y : Nat → Int → Int} {R : Nat → Int → Option Nat} {i : Nat} (a : Int) (ha : rI a) (b : Int) (hb : rI b) (hp : oTN X i) : F_X11_net i X Y R a b := by
  unfold F_X11_net
  intro hX hY X1 e1 xr1
  have hT := hp
  have o1 : ∀ z, z ≠ i → X1 z = X z := fun z h => by rw [e1, zU_o h]
  have em : ∀ s k, mIs i X1 s k = mIs i X s k := fun s k => by
    unfold mIs
    rw [o1 _ (by omega)]
  have h0 := hT.1 0 (by decide) (by decide)
  refine ⟨by rw [o1 _ (by omega)]; exact h0.1, fun r4 X3 xr3 h3 => ?_⟩
  obtain ⟨e4, e3⟩ := h3
  rw [em] at e4
  have o3 : ∀ z, z ≠ i → X3 z = X z := fun z h => by rw [e3, zU_o h, o1 z h]
  have p3 : pK X X3 i := ⟨fun z h _ => o3 z h, by rw [e3, zU_n (by omega), e1, zU_s]⟩
  have s3 : X3 i 24 = a := by rw [e3, zU_s]
  refine ⟨fun c => ?_, fun c => ⟨by unfold rNet; rw [← e4, c]; rfl, p3⟩⟩
  rw [c] at e4
  have ha := mIs_t.mp e4.symm
  have hn := hT.2.1 a ha.1 ha.2
  have fd : oN X3 i := by
    show 0 ≤ X3 i 24 ∧ X3 i 24 ≤ 1
    rw [s3]
    exact ⟨by omega, by omega⟩
  have eG : ∀ w, mG X3 i w = X (i + 6) (13 * a + w) := fun w => by
    unfold mG
    rw [s3, o3 _ (by omega)]
  rw [eG, eG, eG]
  have h6 : 0 ≤ X (i + 6) (13 * a + 6) ∧ X (i + 6) (13 * a + 6) ≤ 6 := hn.2.2.2.2.2.2.1
  refine ⟨fun c1 => ⟨⟨fd, by decide, by decide⟩, fun _ => ⟨⟨by omega, by omega⟩, fun c2 => ⟨?_, p3⟩, fun c2 => ?_⟩⟩, fun c1 => ⟨⟨fd, ?_⟩, fun _ => ⟨?_, p3⟩⟩⟩
  · unfold rNet
    rw [← e4, c1, c2]
    rfl
  · have m := mIn_t.mp c2
    refine ⟨⟨by omega, by omega⟩, ⟨fd, by omega, by omega⟩, fun _ => ⟨?_, p3⟩⟩
    unfold rNet
    rw [← e4, c1, c2]
    rfl
  · have m := mIn_t.mp c1
    exact ⟨by omega, by omega⟩
  · unfold rNet
    rw [← e4, c1]
    rfl
theorem c_X11_net {l : Launch} {D : va_G} {cy : Nat → ClassId} {bs N : Nat} {sa : Nat → Nat} {kd len : Nat → Nat} {X Y : Nat → Int → Int} {R : Nat → Int → Option Nat} {i : Nat} (hM : zM N kd len R i) (a : Int) (ha : rI a) (b : Int) (hb : rI b) (hp : oTN X i) : Met l yX11_net (.code yX11_net cX11_net 3 (some .int) :: zTB) (zRm 3 65) (zPc D cy bs sa N kd len X Y R [.ref (bs + (i)), .int (zI (a)), .int (zI (b))]) (zQi D cy bs N kd len (fun r st => st.2.1 = Y ∧ st.2.2 = R ∧ (r = rNet X i (a) (b) ∧ pK X (st.1) i))) 0 0 (zA bs) := w_X11_net hM a ha b hb (v_X11_net a ha b hb hp)
