/-! ALL LINES -/
abbrev cX11_chainLine : ByteArray := prog_13_method_25_code
def yX11_chainLine : MethodName := ⟨RX11, "chainLine", "(JI)Z"⟩
theorem dX11_chainLine_0 : decode cX11_chainLine 0 = .ok (.lload_n 1, 1) := by decide +kernel
theorem dX11_chainLine_1 : decode cX11_chainLine 1 = .ok (.ldc2_w 191, 3) := by decide +kernel
theorem dX11_chainLine_4 : decode cX11_chainLine 4 = .ok (.lcmp, 1) := by decide +kernel
theorem dX11_chainLine_5 : decode cX11_chainLine 5 = .ok (.ifCond .ne 11, 3) := by decide +kernel
theorem dX11_chainLine_8 : decode cX11_chainLine 8 = .ok (.aload_n 0, 1) := by decide +kernel
theorem dX11_chainLine_9 : decode cX11_chainLine 9 = .ok (.iload_n 3, 1) := by decide +kernel
theorem dX11_chainLine_10 : decode cX11_chainLine 10 = .ok (.invokevirtual 193, 3) := by decide +kernel
theorem dX11_chainLine_13 : decode cX11_chainLine 13 = .ok (.goto 23, 3) := by decide +kernel
theorem dX11_chainLine_16 : decode cX11_chainLine 16 = .ok (.lload_n 1, 1) := by decide +kernel
theorem dX11_chainLine_17 : decode cX11_chainLine 17 = .ok (.ldc2_w 197, 3) := by decide +kernel
theorem dX11_chainLine_20 : decode cX11_chainLine 20 = .ok (.lcmp, 1) := by decide +kernel
theorem dX11_chainLine_21 : decode cX11_chainLine 21 = .ok (.ifCond .ne 11, 3) := by decide +kernel
theorem dX11_chainLine_24 : decode cX11_chainLine 24 = .ok (.aload_n 0, 1) := by decide +kernel
theorem dX11_chainLine_25 : decode cX11_chainLine 25 = .ok (.iload_n 3, 1) := by decide +kernel
theorem dX11_chainLine_26 : decode cX11_chainLine 26 = .ok (.invokevirtual 199, 3) := by decide +kernel
theorem dX11_chainLine_29 : decode cX11_chainLine 29 = .ok (.goto 7, 3) := by decide +kernel
theorem dX11_chainLine_32 : decode cX11_chainLine 32 = .ok (.aload_n 0, 1) := by decide +kernel
theorem dX11_chainLine_33 : decode cX11_chainLine 33 = .ok (.invokevirtual 140, 3) := by decide +kernel
theorem dX11_chainLine_36 : decode cX11_chainLine 36 = .ok (.ireturn, 1) := by decide +kernel
theorem q_1571 : Cond.constantLong RX11 191 (zL (422726034283)) ∈ zTB := zmem 1571 (by decide +kernel) rfl
theorem q_1577 : Cond.methodLink RX11 199 yX11_payLine ∈ zTB := zmem 1577 (by decide +kernel) rfl
theorem q_1579 : Cond.instanceMethod yX11_payLine ∈ zTB := zmem 1579 (by decide +kernel) rfl
theorem q_49 : Cond.selects RX11 yX11_payLine yX11_payLine ∈ zTB := zmem 49 (by decide +kernel) rfl
theorem q_1580 : Cond.code yX11_payLine cX11_payLine 4 (some .boolean) ∈ zTB := zmem 1580 (by decide +kernel) rfl
theorem k_RX11_199 : zLv RX11 199 RX11 yX11_payLine cX11_payLine 4 (some .boolean) 1 := ⟨⟨q_1577, q_1579, q_49, q_140, q_1580⟩, rfl, ⟨by decide, by decide⟩, by decide +kernel⟩
theorem q_1572 : Cond.methodLink RX11 193 yX11_blockLine ∈ zTB := zmem 1572 (by decide +kernel) rfl
theorem q_1574 : Cond.instanceMethod yX11_blockLine ∈ zTB := zmem 1574 (by decide +kernel) rfl
theorem q_48 : Cond.selects RX11 yX11_blockLine yX11_blockLine ∈ zTB := zmem 48 (by decide +kernel) rfl
theorem q_1575 : Cond.code yX11_blockLine cX11_blockLine 4 (some .boolean) ∈ zTB := zmem 1575 (by decide +kernel) rfl
theorem k_RX11_193 : zLv RX11 193 RX11 yX11_blockLine cX11_blockLine 4 (some .boolean) 1 := ⟨⟨q_1572, q_1574, q_48, q_140, q_1575⟩, rfl, ⟨by decide, by decide⟩, by decide +kernel⟩
def F_X11_chainLine (i : Nat) (X Y : Nat → Int → Int) (R : Nat → Int → Option Nat) (a : Int) (b : Int) : Prop := (∀ i j, rI (X i j)) → (∀ i j, rL (Y i j)) → ((¬ a = (422726034283)) → (((¬ a = (7364985)) → (∀ r4 : Bool, ∀ X3 : Nat → Int → Int, (∀ i j, rI (X3 i j)) → (r4 = false ∧ (X3) = zU X i 17 (X i 13)) → (lnQ 1 (a) (b) X (X3) Y (Y) i r4))) ∧ ((¬ (¬ a = (7364985))) → ((oRd X i ∧ bnD 1 X i) ∧ (∀ r8 : Bool, ∀ X6 : Nat → Int → Int, (∀ i j, rI (X6 i j)) → ∀ Y7 : Nat → Int → Int, (∀ i j, rL (Y7 i j)) → (lnQ 1 7364985 (b) X (X6) Y (Y7) i r8) → (lnQ 1 (a) (b) X (X6) Y (Y7) i r8)))))) ∧ ((¬ (¬ a = (422726034283))) → ((oRd X i ∧ bnD 1 X i) ∧ (∀ r12 : Bool, ∀ X10 : Nat → Int → Int, (∀ i j, rI (X10 i j)) → ∀ Y11 : Nat → Int → Int, (∀ i j, rL (Y11 i j)) → (lnP 1 422726034283 (b) X (X10) Y (Y11) i r12) → (lnQ 1 (a) (b) X (X10) Y (Y11) i r12))))
set_option maxHeartbeats 4000000 in
set_option maxRecDepth 100000 in
theorem w_X11_chainLine {l : Launch} {D : va_G} {cy : Nat → ClassId} {bs N : Nat} {sa : Nat → Nat} {kd len : Nat → Nat} {X Y : Nat → Int → Int} {R : Nat → Int → Option Nat} {i : Nat} (hM : zM N kd len R i) (a : Int) (ha : rL a) (b : Int) (hb : rI b) (hF : F_X11_chainLine i X Y R a b) : Met l yX11_chainLine (.code yX11_chainLine cX11_chainLine 4 (some .boolean) :: zTB) (zRm 5 114) (zPc D cy bs sa N kd len X Y R [.ref (bs + (i)), .long (zL (a)), .int (zI (b))]) (zQi D cy bs N kd len (fun r st => st.2.2 = R ∧ ∃ rb : Bool, r = bz rb ∧ (lnQ 1 (a) (b) X (st.1) Y (st.2.1) i rb))) 0 0 (zA bs) := by
  refine zstart (by decide) (Nat.le_of_ble_eq_true rfl) ?_
  intro p e s m args below meth c ls C hE hH hr hlk hnm hl hargs
  have hF := hF hH.2.2.1 hH.2.2.2
  have hS : va_S (zA bs) s.heap s.heap [] := va_S.rf
  have hl : lv_has ls 4 [(0, .ref (bs + (i))), (1, .long (zL (a))), (3, .int (zI (b)))] := hl
  refine lv_lload_n C.1 C.2.1 dX11_chainLine_0 rfl (lv_at hl 1 rfl) ?_
  refine lv_ldc2 (v := zL (422726034283)) C.1 C.2.1 C.2.2.2.1 (C.2.2.2.2.1 _ q_1571) dX11_chainLine_1 ?_
  refine zd_lcmp C ha (by decide) dX11_chainLine_4 ?_
  refine zd_ifL_ne C 16 dX11_chainLine_5 (by decide) (fun c1 => ?_) (fun c1 => ?_)
  · have hF := hF.1 c1
    refine lv_lload_n C.1 C.2.1 dX11_chainLine_16 rfl (lv_at hl 1 rfl) ?_
    refine lv_ldc2 (v := zL (7364985)) C.1 C.2.1 C.2.2.2.1 (C.2.2.2.2.1 _ q_1576) dX11_chainLine_17 ?_
    refine zd_lcmp C ha (by decide) dX11_chainLine_20 ?_
    refine zd_ifL_ne C 32 dX11_chainLine_21 (by decide) (fun c2 => ?_) (fun c2 => ?_)
    · have hF := hF.1 c2
      refine lv_aload_n C.1 C.2.1 dX11_chainLine_32 rfl (lv_at hl 0 rfl) ?_
      refine zgoi (zrunV (As := []) (rest := []) C hE hH hS hl.1 (c_X11_fails (l := l) hM ) k_RX11_140 ⟨Nat.le_of_ble_eq_true rfl, Nat.le_of_ble_eq_true rfl⟩ (zM_n0 hM) (zM_k0 hM) rfl rfl rfl (Nat.le_of_ble_eq_true rfl) dX11_chainLine_33 ⟨Nat.zero_le _, Nat.zero_le _⟩) hS (fun rq X3 Yq Rq H locs hrq hq hH hS => ?_)
      obtain ⟨h9Y, h9R, hq⟩ := hq
      dsimp only at h9Y h9R
      rw [h9Y, h9R] at hH
      obtain ⟨r4, h91, hq⟩ := hq
      subst h91
      have hF := hF r4 X3 hH.2.2.1 hq
      exact zd_zret C hr hlk hH hS bz_01 (⟨rfl, _, rfl, hF⟩) dX11_chainLine_36
    · have hF := hF.2 c2
      refine lv_aload_n C.1 C.2.1 dX11_chainLine_24 rfl (lv_at hl 0 rfl) ?_
      refine lv_iload_n C.1 C.2.1 dX11_chainLine_25 rfl (lv_at hl 2 rfl) ?_
      obtain ⟨o5, hF⟩ := hF
      refine zgoi (zrunV (As := [.int (zI (b))]) (rest := []) C hE hH hS hl.1 (c_X11_payLine (l := l) hM (b) hb o5) k_RX11_199 ⟨Nat.le_of_ble_eq_true rfl, Nat.le_of_ble_eq_true rfl⟩ (zM_n0 hM) (zM_k0 hM) rfl rfl rfl (Nat.le_of_ble_eq_true rfl) dX11_chainLine_26 ⟨Nat.zero_le _, Nat.zero_le _⟩) hS (fun rq X6 Y7 Rq H locs hrq hq hH hS => ?_)
      obtain ⟨h9R, hq⟩ := hq
      dsimp only at h9R
      rw [h9R] at hH
      obtain ⟨r8, h91, hq⟩ := hq
      subst h91
      have hF := hF r8 X6 hH.2.2.1 Y7 hH.2.2.2 hq
      refine lv_goto (tgt := 36) C.1 C.2.1 dX11_chainLine_29 (by decide) ?_
      exact zd_zret C hr hlk hH hS bz_01 (⟨rfl, _, rfl, hF⟩) dX11_chainLine_36
  · have hF := hF.2 c1
    refine lv_aload_n C.1 C.2.1 dX11_chainLine_8 rfl (lv_at hl 0 rfl) ?_
    refine lv_iload_n C.1 C.2.1 dX11_chainLine_9 rfl (lv_at hl 2 rfl) ?_
    obtain ⟨o9, hF⟩ := hF
    refine zgoi (zrunV (As := [.int (zI (b))]) (rest := []) C hE hH hS hl.1 (c_X11_blockLine (l := l) hM (b) hb o9) k_RX11_193 ⟨Nat.le_of_ble_eq_true rfl, Nat.le_of_ble_eq_true rfl⟩ (zM_n0 hM) (zM_k0 hM) rfl rfl rfl (Nat.le_of_ble_eq_true rfl) dX11_chainLine_10 ⟨Nat.zero_le _, Nat.zero_le _⟩) hS (fun rq X10 Y11 Rq H locs hrq hq hH hS => ?_)
    obtain ⟨h9R, hq⟩ := hq
    dsimp only at h9R
    rw [h9R] at hH
    obtain ⟨r12, h91, hq⟩ := hq
    subst h91
    have hF := hF r12 X10 hH.2.2.1 Y11 hH.2.2.2 hq
    refine lv_goto (tgt := 36) C.1 C.2.1 dX11_chainLine_13 (by decide) ?_
    exact zd_zret C hr hlk hH hS bz_01 (⟨rfl, _, rfl, hF⟩) dX11_chainLine_36
theorem v_X11_chainLine {X Y : Nat → Int → Int} {R : Nat → Int → Option Nat} {i : Nat} (a : Int) (ha : rL a) (b : Int) (hb : rI b) (hp : oRd X i ∧ bnD 1 X i) : F_X11_chainLine i X Y R a b := by
  unfold F_X11_chainLine
  intro hX hY
  obtain ⟨hr, hbd⟩ := hp
  refine ⟨?_, ?_⟩
  · intro c1
    refine ⟨?_, ?_⟩
    · intro c2
      intro r4
      intro X3
      intro rX3
      intro h1
      have g1 := h1
      refine ⟨⟨fun z h1 _ _ => by rw [g1.2, zU_o h1], fun s hs => by rw [g1.2, zU_n (by omega)], fun _ _ => rfl⟩, fun g => (by rw [g1.1] at g; cases g), fun s hs _ hw hb hk => ?_⟩
      have ek : kwT (X (i + 1)) (X i 12).toNat s.1 1 = -1 := by
        show kwN 1 (wdS X Y i s) = -1
        rw [← hw]
        unfold kwN
        rw [if_neg (by decide), if_pos rfl, if_neg c1, if_neg c2]
      rw [rdL_k ek]
      exact ⟨g1.1, by rw [g1.2, zU_s]; exact hs.1.2.2.1⟩
    intro c3
    refine ⟨?_, ?_⟩
    · exact ⟨hr, hbd⟩
    intro r8
    intro X6
    intro rX6
    intro Y7
    intro rY7
    intro h2
    rw [Classical.not_not.mp c3]
    exact h2
  intro c4
  refine ⟨?_, ?_⟩
  · exact ⟨hr, hbd⟩
  intro r12
  intro X10
  intro rX10
  intro Y11
  intro rY11
  intro h3
  rw [Classical.not_not.mp c4]
  exact h3.q
theorem c_X11_chainLine {l : Launch} {D : va_G} {cy : Nat → ClassId} {bs N : Nat} {sa : Nat → Nat} {kd len : Nat → Nat} {X Y : Nat → Int → Int} {R : Nat → Int → Option Nat} {i : Nat} (hM : zM N kd len R i) (a : Int) (ha : rL a) (b : Int) (hb : rI b) (hp : oRd X i ∧ bnD 1 X i) : Met l yX11_chainLine (.code yX11_chainLine cX11_chainLine 4 (some .boolean) :: zTB) (zRm 5 114) (zPc D cy bs sa N kd len X Y R [.ref (bs + (i)), .long (zL (a)), .int (zI (b))]) (zQi D cy bs N kd len (fun r st => st.2.2 = R ∧ ∃ rb : Bool, r = bz rb ∧ (lnQ 1 (a) (b) X (st.1) Y (st.2.1) i rb))) 0 0 (zA bs) := w_X11_chainLine hM a ha b hb (v_X11_chainLine a ha b hb hp)
abbrev cX11_lineOf : ByteArray := prog_13_method_30_code
def yX11_lineOf : MethodName := ⟨RX11, "lineOf", "(IJI)Z"⟩
theorem dX11_lineOf_0 : decode cX11_lineOf 0 = .ok (.iload_n 1, 1) := by decide +kernel
theorem dX11_lineOf_1 : decode cX11_lineOf 1 = .ok (.tableswitch 63 0 3 #[31, 39, 47, 55], 31) := by decide +kernel
theorem dX11_lineOf_32 : decode cX11_lineOf 32 = .ok (.aload_n 0, 1) := by decide +kernel
theorem dX11_lineOf_33 : decode cX11_lineOf 33 = .ok (.lload_n 2, 1) := by decide +kernel
theorem dX11_lineOf_34 : decode cX11_lineOf 34 = .ok (.iload 4, 2) := by decide +kernel
theorem dX11_lineOf_36 : decode cX11_lineOf 36 = .ok (.invokevirtual 213, 3) := by decide +kernel
theorem dX11_lineOf_39 : decode cX11_lineOf 39 = .ok (.ireturn, 1) := by decide +kernel
theorem dX11_lineOf_40 : decode cX11_lineOf 40 = .ok (.aload_n 0, 1) := by decide +kernel
theorem dX11_lineOf_41 : decode cX11_lineOf 41 = .ok (.lload_n 2, 1) := by decide +kernel
theorem dX11_lineOf_42 : decode cX11_lineOf 42 = .ok (.iload 4, 2) := by decide +kernel
theorem dX11_lineOf_44 : decode cX11_lineOf 44 = .ok (.invokevirtual 217, 3) := by decide +kernel
theorem dX11_lineOf_47 : decode cX11_lineOf 47 = .ok (.ireturn, 1) := by decide +kernel
theorem dX11_lineOf_48 : decode cX11_lineOf 48 = .ok (.aload_n 0, 1) := by decide +kernel
theorem dX11_lineOf_49 : decode cX11_lineOf 49 = .ok (.lload_n 2, 1) := by decide +kernel
theorem dX11_lineOf_50 : decode cX11_lineOf 50 = .ok (.iload 4, 2) := by decide +kernel
theorem dX11_lineOf_52 : decode cX11_lineOf 52 = .ok (.invokevirtual 220, 3) := by decide +kernel
theorem dX11_lineOf_55 : decode cX11_lineOf 55 = .ok (.ireturn, 1) := by decide +kernel
theorem dX11_lineOf_56 : decode cX11_lineOf 56 = .ok (.aload_n 0, 1) := by decide +kernel
theorem dX11_lineOf_57 : decode cX11_lineOf 57 = .ok (.lload_n 2, 1) := by decide +kernel
theorem dX11_lineOf_58 : decode cX11_lineOf 58 = .ok (.iload 4, 2) := by decide +kernel
theorem dX11_lineOf_60 : decode cX11_lineOf 60 = .ok (.invokevirtual 223, 3) := by decide +kernel
theorem dX11_lineOf_63 : decode cX11_lineOf 63 = .ok (.ireturn, 1) := by decide +kernel
theorem dX11_lineOf_64 : decode cX11_lineOf 64 = .ok (.aload_n 0, 1) := by decide +kernel
theorem dX11_lineOf_65 : decode cX11_lineOf 65 = .ok (.lload_n 2, 1) := by decide +kernel
theorem dX11_lineOf_66 : decode cX11_lineOf 66 = .ok (.iload 4, 2) := by decide +kernel
theorem dX11_lineOf_68 : decode cX11_lineOf 68 = .ok (.invokevirtual 226, 3) := by decide +kernel
theorem dX11_lineOf_71 : decode cX11_lineOf 71 = .ok (.ireturn, 1) := by decide +kernel
theorem q_1529 : Cond.methodLink RX11 213 yX11_netLine ∈ zTB := zmem 1529 (by decide +kernel) rfl
theorem q_1531 : Cond.instanceMethod yX11_netLine ∈ zTB := zmem 1531 (by decide +kernel) rfl
theorem q_40 : Cond.selects RX11 yX11_netLine yX11_netLine ∈ zTB := zmem 40 (by decide +kernel) rfl
theorem q_1532 : Cond.code yX11_netLine cX11_netLine 7 (some .boolean) ∈ zTB := zmem 1532 (by decide +kernel) rfl
theorem k_RX11_213 : zLv RX11 213 RX11 yX11_netLine cX11_netLine 7 (some .boolean) 2 := ⟨⟨q_1529, q_1531, q_40, q_140, q_1532⟩, rfl, ⟨by decide, by decide⟩, by decide +kernel⟩
theorem q_1567 : Cond.methodLink RX11 217 yX11_chainLine ∈ zTB := zmem 1567 (by decide +kernel) rfl
theorem q_1569 : Cond.instanceMethod yX11_chainLine ∈ zTB := zmem 1569 (by decide +kernel) rfl
theorem q_47 : Cond.selects RX11 yX11_chainLine yX11_chainLine ∈ zTB := zmem 47 (by decide +kernel) rfl
theorem q_1570 : Cond.code yX11_chainLine cX11_chainLine 4 (some .boolean) ∈ zTB := zmem 1570 (by decide +kernel) rfl
theorem k_RX11_217 : zLv RX11 217 RX11 yX11_chainLine cX11_chainLine 4 (some .boolean) 2 := ⟨⟨q_1567, q_1569, q_47, q_140, q_1570⟩, rfl, ⟨by decide, by decide⟩, by decide +kernel⟩
theorem q_1581 : Cond.methodLink RX11 220 yX11_feedLine ∈ zTB := zmem 1581 (by decide +kernel) rfl
theorem q_1583 : Cond.instanceMethod yX11_feedLine ∈ zTB := zmem 1583 (by decide +kernel) rfl
theorem q_50 : Cond.selects RX11 yX11_feedLine yX11_feedLine ∈ zTB := zmem 50 (by decide +kernel) rfl
theorem q_1584 : Cond.code yX11_feedLine cX11_feedLine 5 (some .boolean) ∈ zTB := zmem 1584 (by decide +kernel) rfl
theorem k_RX11_220 : zLv RX11 220 RX11 yX11_feedLine cX11_feedLine 5 (some .boolean) 2 := ⟨⟨q_1581, q_1583, q_50, q_140, q_1584⟩, rfl, ⟨by decide, by decide⟩, by decide +kernel⟩
theorem q_1592 : Cond.methodLink RX11 223 yX11_logLine ∈ zTB := zmem 1592 (by decide +kernel) rfl
theorem q_1594 : Cond.instanceMethod yX11_logLine ∈ zTB := zmem 1594 (by decide +kernel) rfl
theorem q_52 : Cond.selects RX11 yX11_logLine yX11_logLine ∈ zTB := zmem 52 (by decide +kernel) rfl
theorem q_1595 : Cond.code yX11_logLine cX11_logLine 4 (some .boolean) ∈ zTB := zmem 1595 (by decide +kernel) rfl
theorem k_RX11_223 : zLv RX11 223 RX11 yX11_logLine cX11_logLine 4 (some .boolean) 2 := ⟨⟨q_1592, q_1594, q_52, q_140, q_1595⟩, rfl, ⟨by decide, by decide⟩, by decide +kernel⟩
theorem q_1597 : Cond.methodLink RX11 226 yX11_poolLine ∈ zTB := zmem 1597 (by decide +kernel) rfl
theorem q_1599 : Cond.instanceMethod yX11_poolLine ∈ zTB := zmem 1599 (by decide +kernel) rfl
theorem q_53 : Cond.selects RX11 yX11_poolLine yX11_poolLine ∈ zTB := zmem 53 (by decide +kernel) rfl
theorem q_1600 : Cond.code yX11_poolLine cX11_poolLine 4 (some .boolean) ∈ zTB := zmem 1600 (by decide +kernel) rfl
theorem k_RX11_226 : zLv RX11 226 RX11 yX11_poolLine cX11_poolLine 4 (some .boolean) 2 := ⟨⟨q_1597, q_1599, q_53, q_140, q_1600⟩, rfl, ⟨by decide, by decide⟩, by decide +kernel⟩
def F_X11_lineOf (i : Nat) (X Y : Nat → Int → Int) (R : Nat → Int → Option Nat) (a : Int) (b : Int) (g : Int) : Prop := (∀ i j, rI (X i j)) → (∀ i j, rL (Y i j)) → (a = 0 → ((oRd X i ∧ bnD 0 X i ∧ X i 22 = 1) ∧ (∀ r5 : Bool, ∀ X3 : Nat → Int → Int, (∀ i j, rI (X3 i j)) → ∀ Y4 : Nat → Int → Int, (∀ i j, rL (Y4 i j)) → (lnP 0 (b) (g) X (X3) Y (Y4) i r5) → (lnQ (a) (b) (g) X (X3) Y (Y4) i r5)))) ∧ (a = 1 → ((oRd X i ∧ bnD 1 X i) ∧ (∀ r9 : Bool, ∀ X7 : Nat → Int → Int, (∀ i j, rI (X7 i j)) → ∀ Y8 : Nat → Int → Int, (∀ i j, rL (Y8 i j)) → (lnQ 1 (b) (g) X (X7) Y (Y8) i r9) → (lnQ (a) (b) (g) X (X7) Y (Y8) i r9)))) ∧ (a = 2 → ((oRd X i ∧ bnD 2 X i) ∧ (∀ r13 : Bool, ∀ X11 : Nat → Int → Int, (∀ i j, rI (X11 i j)) → ∀ Y12 : Nat → Int → Int, (∀ i j, rL (Y12 i j)) → (lnP 2 (b) (g) X (X11) Y (Y12) i r13) → (lnQ (a) (b) (g) X (X11) Y (Y12) i r13)))) ∧ (a = 3 → ((oRd X i ∧ bnD 3 X i) ∧ (∀ r17 : Bool, ∀ X15 : Nat → Int → Int, (∀ i j, rI (X15 i j)) → ∀ Y16 : Nat → Int → Int, (∀ i j, rL (Y16 i j)) → (lnP 3 (b) (g) X (X15) Y (Y16) i r17) → (lnQ (a) (b) (g) X (X15) Y (Y16) i r17)))) ∧ ((a < 0 ∨ 3 < a) → ((oRd X i ∧ bnD 4 X i) ∧ (∀ r21 : Bool, ∀ X19 : Nat → Int → Int, (∀ i j, rI (X19 i j)) → ∀ Y20 : Nat → Int → Int, (∀ i j, rL (Y20 i j)) → (lnP 4 (b) (g) X (X19) Y (Y20) i r21) → (lnQ (a) (b) (g) X (X19) Y (Y20) i r21))))
set_option maxHeartbeats 4000000 in
set_option maxRecDepth 100000 in
theorem w_X11_lineOf {l : Launch} {D : va_G} {cy : Nat → ClassId} {bs N : Nat} {sa : Nat → Nat} {kd len : Nat → Nat} {X Y : Nat → Int → Int} {R : Nat → Int → Option Nat} {i : Nat} (hM : zM N kd len R i) (a : Int) (ha : rI a) (b : Int) (hb : rL b) (g : Int) (hg : rI g) (hF : F_X11_lineOf i X Y R a b g) : Met l yX11_lineOf (.code yX11_lineOf cX11_lineOf 5 (some .boolean) :: zTB) (zRm 6 137) (zPc D cy bs sa N kd len X Y R [.ref (bs + (i)), .int (zI (a)), .long (zL (b)), .int (zI (g))]) (zQi D cy bs N kd len (fun r st => st.2.2 = R ∧ ∃ rb : Bool, r = bz rb ∧ (lnQ (a) (b) (g) X (st.1) Y (st.2.1) i rb))) 0 0 (zA bs) := by
  refine zstart (by decide) (Nat.le_of_ble_eq_true rfl) ?_
  intro p e s m args below meth c ls C hE hH hr hlk hnm hl hargs
  have hF := hF hH.2.2.1 hH.2.2.2
  have hS : va_S (zA bs) s.heap s.heap [] := va_S.rf
  have hl : lv_has ls 5 [(0, .ref (bs + (i))), (1, .int (zI (a))), (2, .long (zL (b))), (4, .int (zI (g)))] := hl
  refine lv_iload_n C.1 C.2.1 dX11_lineOf_0 rfl (lv_at hl 1 rfl) ?_
  by_cases c1_0 : a = 0
  · have hF := hF.1 c1_0
    refine zd_tabI C ha 32 (0) c1_0 dX11_lineOf_1 (by decide) (by decide) rfl (by decide) ?_
    refine lv_aload_n C.1 C.2.1 dX11_lineOf_32 rfl (lv_at hl 0 rfl) ?_
    refine lv_lload_n C.1 C.2.1 dX11_lineOf_33 rfl (lv_at hl 2 rfl) ?_
    refine lv_iload C.1 C.2.1 dX11_lineOf_34 (lv_at hl 3 rfl) ?_
    obtain ⟨o2, hF⟩ := hF
    refine zgoi (zrunV (As := [.long (zL (b)), .int (zI (g))]) (rest := []) C hE hH hS hl.1 (c_X11_netLine (l := l) hM (b) hb (g) hg o2) k_RX11_213 ⟨Nat.le_of_ble_eq_true rfl, Nat.le_of_ble_eq_true rfl⟩ (zM_n0 hM) (zM_k0 hM) rfl rfl rfl (Nat.le_of_ble_eq_true rfl) dX11_lineOf_36 ⟨Nat.zero_le _, Nat.zero_le _⟩) hS (fun rq X3 Y4 Rq H locs hrq hq hH hS => ?_)
    obtain ⟨h9R, hq⟩ := hq
    dsimp only at h9R
    rw [h9R] at hH
    obtain ⟨r5, h91, hq⟩ := hq
    subst h91
    have hF := hF r5 X3 hH.2.2.1 Y4 hH.2.2.2 hq
    exact zd_zret C hr hlk hH hS bz_01 (⟨rfl, _, rfl, hF⟩) dX11_lineOf_39
  · have hF := hF.2
    by_cases c1_1 : a = 1
    · have hF := hF.1 c1_1
      refine zd_tabI C ha 40 (1) c1_1 dX11_lineOf_1 (by decide) (by decide) rfl (by decide) ?_
      refine lv_aload_n C.1 C.2.1 dX11_lineOf_40 rfl (lv_at hl 0 rfl) ?_
      refine lv_lload_n C.1 C.2.1 dX11_lineOf_41 rfl (lv_at hl 2 rfl) ?_
      refine lv_iload C.1 C.2.1 dX11_lineOf_42 (lv_at hl 3 rfl) ?_
      obtain ⟨o6, hF⟩ := hF
      refine zgoi (zrunV (As := [.long (zL (b)), .int (zI (g))]) (rest := []) C hE hH hS hl.1 (c_X11_chainLine (l := l) hM (b) hb (g) hg o6) k_RX11_217 ⟨Nat.le_of_ble_eq_true rfl, Nat.le_of_ble_eq_true rfl⟩ (zM_n0 hM) (zM_k0 hM) rfl rfl rfl (Nat.le_of_ble_eq_true rfl) dX11_lineOf_44 ⟨Nat.zero_le _, Nat.zero_le _⟩) hS (fun rq X7 Y8 Rq H locs hrq hq hH hS => ?_)
      obtain ⟨h9R, hq⟩ := hq
      dsimp only at h9R
      rw [h9R] at hH
      obtain ⟨r9, h91, hq⟩ := hq
      subst h91
      have hF := hF r9 X7 hH.2.2.1 Y8 hH.2.2.2 hq
      exact zd_zret C hr hlk hH hS bz_01 (⟨rfl, _, rfl, hF⟩) dX11_lineOf_47
    · have hF := hF.2
      by_cases c1_2 : a = 2
      · have hF := hF.1 c1_2
        refine zd_tabI C ha 48 (2) c1_2 dX11_lineOf_1 (by decide) (by decide) rfl (by decide) ?_
        refine lv_aload_n C.1 C.2.1 dX11_lineOf_48 rfl (lv_at hl 0 rfl) ?_
        refine lv_lload_n C.1 C.2.1 dX11_lineOf_49 rfl (lv_at hl 2 rfl) ?_
        refine lv_iload C.1 C.2.1 dX11_lineOf_50 (lv_at hl 3 rfl) ?_
        obtain ⟨o10, hF⟩ := hF
        refine zgoi (zrunV (As := [.long (zL (b)), .int (zI (g))]) (rest := []) C hE hH hS hl.1 (c_X11_feedLine (l := l) hM (b) hb (g) hg o10) k_RX11_220 ⟨Nat.le_of_ble_eq_true rfl, Nat.le_of_ble_eq_true rfl⟩ (zM_n0 hM) (zM_k0 hM) rfl rfl rfl (Nat.le_of_ble_eq_true rfl) dX11_lineOf_52 ⟨Nat.zero_le _, Nat.zero_le _⟩) hS (fun rq X11 Y12 Rq H locs hrq hq hH hS => ?_)
        obtain ⟨h9R, hq⟩ := hq
        dsimp only at h9R
        rw [h9R] at hH
        obtain ⟨r13, h91, hq⟩ := hq
        subst h91
        have hF := hF r13 X11 hH.2.2.1 Y12 hH.2.2.2 hq
        exact zd_zret C hr hlk hH hS bz_01 (⟨rfl, _, rfl, hF⟩) dX11_lineOf_55
      · have hF := hF.2
        by_cases c1_3 : a = 3
        · have hF := hF.1 c1_3
          refine zd_tabI C ha 56 (3) c1_3 dX11_lineOf_1 (by decide) (by decide) rfl (by decide) ?_
          refine lv_aload_n C.1 C.2.1 dX11_lineOf_56 rfl (lv_at hl 0 rfl) ?_
          refine lv_lload_n C.1 C.2.1 dX11_lineOf_57 rfl (lv_at hl 2 rfl) ?_
          refine lv_iload C.1 C.2.1 dX11_lineOf_58 (lv_at hl 3 rfl) ?_
          obtain ⟨o14, hF⟩ := hF
          refine zgoi (zrunV (As := [.long (zL (b)), .int (zI (g))]) (rest := []) C hE hH hS hl.1 (c_X11_logLine (l := l) hM (b) hb (g) hg o14) k_RX11_223 ⟨Nat.le_of_ble_eq_true rfl, Nat.le_of_ble_eq_true rfl⟩ (zM_n0 hM) (zM_k0 hM) rfl rfl rfl (Nat.le_of_ble_eq_true rfl) dX11_lineOf_60 ⟨Nat.zero_le _, Nat.zero_le _⟩) hS (fun rq X15 Y16 Rq H locs hrq hq hH hS => ?_)
          obtain ⟨h9R, hq⟩ := hq
          dsimp only at h9R
          rw [h9R] at hH
          obtain ⟨r17, h91, hq⟩ := hq
          subst h91
          have hF := hF r17 X15 hH.2.2.1 Y16 hH.2.2.2 hq
          exact zd_zret C hr hlk hH hS bz_01 (⟨rfl, _, rfl, hF⟩) dX11_lineOf_63
        · have hF := hF.2
          have c1 := tsw_0_3 (a) c1_0 c1_1 c1_2 c1_3
          have hF := hF c1
          refine zd_tabO C ha 64 c1 dX11_lineOf_1 (by decide) ?_
          refine lv_aload_n C.1 C.2.1 dX11_lineOf_64 rfl (lv_at hl 0 rfl) ?_
          refine lv_lload_n C.1 C.2.1 dX11_lineOf_65 rfl (lv_at hl 2 rfl) ?_
          refine lv_iload C.1 C.2.1 dX11_lineOf_66 (lv_at hl 3 rfl) ?_
          obtain ⟨o18, hF⟩ := hF
          refine zgoi (zrunV (As := [.long (zL (b)), .int (zI (g))]) (rest := []) C hE hH hS hl.1 (c_X11_poolLine (l := l) hM (b) hb (g) hg o18) k_RX11_226 ⟨Nat.le_of_ble_eq_true rfl, Nat.le_of_ble_eq_true rfl⟩ (zM_n0 hM) (zM_k0 hM) rfl rfl rfl (Nat.le_of_ble_eq_true rfl) dX11_lineOf_68 ⟨Nat.zero_le _, Nat.zero_le _⟩) hS (fun rq X19 Y20 Rq H locs hrq hq hH hS => ?_)
          obtain ⟨h9R, hq⟩ := hq
          dsimp only at h9R
          rw [h9R] at hH
          obtain ⟨r21, h91, hq⟩ := hq
          subst h91
          have hF := hF r21 X19 hH.2.2.1 Y20 hH.2.2.2 hq
          exact zd_zret C hr hlk hH hS bz_01 (⟨rfl, _, rfl, hF⟩) dX11_lineOf_71
theorem v_X11_lineOf {X Y : Nat → Int → Int} {R : Nat → Int → Option Nat} {i : Nat} (a : Int) (ha : rI a) (b : Int) (hb : rL b) (g : Int) (hg : rI g) (hp : (0 ≤ a ∧ a ≤ 4) ∧ oRd X i ∧ bnD (a) X i ∧ X i 22 = 1) : F_X11_lineOf i X Y R a b g := by
  unfold F_X11_lineOf
  intro hX hY
  obtain ⟨ha4, hr, hbd, h22⟩ := hp
  refine ⟨?_, ?_⟩
  · intro c1
    subst c1
    refine ⟨?_, ?_⟩
    · exact ⟨hr, hbd, h22⟩
    intro r5
    intro X3
    intro rX3
    intro Y4
    intro rY4
    intro h1
    exact h1.q
  refine ⟨?_, ?_⟩
  · intro c2
    subst c2
    refine ⟨?_, ?_⟩
    · exact ⟨hr, hbd⟩
    intro r9
    intro X7
    intro rX7
    intro Y8
    intro rY8
    intro h2
    exact h2
  refine ⟨?_, ?_⟩
  · intro c3
    subst c3
    refine ⟨?_, ?_⟩
    · exact ⟨hr, hbd⟩
    intro r13
    intro X11
    intro rX11
    intro Y12
    intro rY12
    intro h3
    exact h3.q
  refine ⟨?_, ?_⟩
  · intro c4
    subst c4
    refine ⟨?_, ?_⟩
    · exact ⟨hr, hbd⟩
    intro r17
    intro X15
    intro rX15
    intro Y16
    intro rY16
    intro h4
    exact h4.q
  intro c5
  have e4 : a = 4 := by omega
  subst e4
  refine ⟨?_, ?_⟩
  · exact ⟨hr, hbd⟩
  intro r21
  intro X19
  intro rX19
  intro Y20
  intro rY20
  intro h5
  exact h5.q
theorem c_X11_lineOf {l : Launch} {D : va_G} {cy : Nat → ClassId} {bs N : Nat} {sa : Nat → Nat} {kd len : Nat → Nat} {X Y : Nat → Int → Int} {R : Nat → Int → Option Nat} {i : Nat} (hM : zM N kd len R i) (a : Int) (ha : rI a) (b : Int) (hb : rL b) (g : Int) (hg : rI g) (hp : (0 ≤ a ∧ a ≤ 4) ∧ oRd X i ∧ bnD (a) X i ∧ X i 22 = 1) : Met l yX11_lineOf (.code yX11_lineOf cX11_lineOf 5 (some .boolean) :: zTB) (zRm 6 137) (zPc D cy bs sa N kd len X Y R [.ref (bs + (i)), .int (zI (a)), .long (zL (b)), .int (zI (g))]) (zQi D cy bs N kd len (fun r st => st.2.2 = R ∧ ∃ rb : Bool, r = bz rb ∧ (lnQ (a) (b) (g) X (st.1) Y (st.2.1) i rb))) 0 0 (zA bs) := w_X11_lineOf hM a ha b hb g hg (v_X11_lineOf a ha b hb g hg hp)
