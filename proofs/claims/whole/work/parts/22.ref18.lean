/-! PLAYING A FEED -/
def fW (X : Nat → Int → Int) (i k : Nat) : Int := mDd X i k 0
def fV (X : Nat → Int → Int) (i k : Nat) : Int := mDd X i k 1
/-- what holds of a course under way -/
def oPl (X Y : Nat → Int → Int) (i : Nat) (q : Int) : Prop := oH X Y i ∧ oCS (cX X i, kX X i) (X i 27).toNat (15 + 15 * q) (15 + 15 * q)

abbrev cX11_play : ByteArray := prog_13_method_72_code
def yX11_play : MethodName := ⟨RX11, "play", "(I)I"⟩
theorem dX11_play_0 : decode cX11_play 0 = .ok (.iconst 0, 1) := by decide +kernel
theorem dX11_play_1 : decode cX11_play 1 = .ok (.istore_n 2, 1) := by decide +kernel
theorem dX11_play_2 : decode cX11_play 2 = .ok (.iload_n 2, 1) := by decide +kernel
theorem dX11_play_3 : decode cX11_play 3 = .ok (.iload_n 1, 1) := by decide +kernel
theorem dX11_play_4 : decode cX11_play 4 = .ok (.if_icmp .ge 28, 3) := by decide +kernel
theorem dX11_play_7 : decode cX11_play 7 = .ok (.aload_n 0, 1) := by decide +kernel
theorem dX11_play_8 : decode cX11_play 8 = .ok (.aload_n 0, 1) := by decide +kernel
theorem dX11_play_9 : decode cX11_play 9 = .ok (.iload_n 2, 1) := by decide +kernel
theorem dX11_play_10 : decode cX11_play 10 = .ok (.iconst 0, 1) := by decide +kernel
theorem dX11_play_11 : decode cX11_play 11 = .ok (.invokevirtual 358, 3) := by decide +kernel
theorem dX11_play_14 : decode cX11_play 14 = .ok (.aload_n 0, 1) := by decide +kernel
theorem dX11_play_15 : decode cX11_play 15 = .ok (.iload_n 2, 1) := by decide +kernel
theorem dX11_play_16 : decode cX11_play 16 = .ok (.iconst 1, 1) := by decide +kernel
theorem dX11_play_17 : decode cX11_play 17 = .ok (.invokevirtual 358, 3) := by decide +kernel
theorem dX11_play_20 : decode cX11_play 20 = .ok (.invokevirtual 394, 3) := by decide +kernel
theorem dX11_play_23 : decode cX11_play 23 = .ok (.ifCond .eq 9, 3) := by decide +kernel
theorem dX11_play_26 : decode cX11_play 26 = .ok (.iinc 2 1, 3) := by decide +kernel
theorem dX11_play_29 : decode cX11_play 29 = .ok (.goto (-27), 3) := by decide +kernel
theorem dX11_play_32 : decode cX11_play 32 = .ok (.iload_n 2, 1) := by decide +kernel
theorem dX11_play_33 : decode cX11_play 33 = .ok (.ireturn, 1) := by decide +kernel
theorem q_1657 : Cond.methodLink RX11 358 yX11_deedOf ∈ zTB := zmem 1657 (by decide +kernel) rfl
theorem q_1659 : Cond.instanceMethod yX11_deedOf ∈ zTB := zmem 1659 (by decide +kernel) rfl
theorem q_64 : Cond.selects RX11 yX11_deedOf yX11_deedOf ∈ zTB := zmem 64 (by decide +kernel) rfl
theorem q_1660 : Cond.code yX11_deedOf cX11_deedOf 3 (some .int) ∈ zTB := zmem 1660 (by decide +kernel) rfl
theorem k_RX11_358 : zLv RX11 358 RX11 yX11_deedOf cX11_deedOf 3 (some .int) 2 := ⟨⟨q_1657, q_1659, q_64, q_140, q_1660⟩, rfl, ⟨by decide, by decide⟩, by decide +kernel⟩
theorem q_1724 : Cond.methodLink RX11 394 yX11_does ∈ zTB := zmem 1724 (by decide +kernel) rfl
theorem q_1726 : Cond.instanceMethod yX11_does ∈ zTB := zmem 1726 (by decide +kernel) rfl
theorem q_78 : Cond.selects RX11 yX11_does yX11_does ∈ zTB := zmem 78 (by decide +kernel) rfl
theorem q_1727 : Cond.code yX11_does cX11_does 3 (some .boolean) ∈ zTB := zmem 1727 (by decide +kernel) rfl
theorem k_RX11_394 : zLv RX11 394 RX11 yX11_does cX11_does 3 (some .boolean) 2 := ⟨⟨q_1724, q_1726, q_78, q_140, q_1727⟩, rfl, ⟨by decide, by decide⟩, by decide +kernel⟩
def F_X11_play (i : Nat) (X Y : Nat → Int → Int) (R : Nat → Int → Option Nat) (a : Int) : Prop := (∀ i j, rI (X i j)) → (∀ i j, rL (Y i j)) → (∃ q : Nat, (0 : Int) = q ∧ q ≤ a.toNat ∧ fK X X Y Y i ∧ oPl X Y i q ∧ ∀ t, cR X i (X i 27).toNat t → ∃ u, csPl (rCx X i) (fW X i) (fV X i) a.toNat 0 t = csPl (rCx X i) (fW X i) (fV X i) (a.toNat - q) q u ∧ cR X i (X i 27).toNat u) ∧ (∀ (k : Int) (X2 : Nat → Int → Int) (Y3 : Nat → Int → Int), rI k → (∀ i j, rI (X2 i j)) → (∀ i j, rL (Y3 i j)) → (∃ q : Nat, k = q ∧ q ≤ a.toNat ∧ fK X X2 Y Y3 i ∧ oPl X2 Y3 i q ∧ ∀ t, cR X i (X i 27).toNat t → ∃ u, csPl (rCx X i) (fW X i) (fV X i) a.toNat 0 t = csPl (rCx X i) (fW X i) (fV X i) (a.toNat - q) q u ∧ cR X2 i (X i 27).toNat u) → (((a ≤ k) → (fK X (X2) Y (Y3) i ∧ oH (X2) (Y3) i ∧ oCS (cX (X2) i, kX (X2) i) (X i 27).toNat 615 615 ∧ ∀ t, cR X i (X i 27).toNat t → k = (((csPl (rCx X i) (fW X i) (fV X i) (a).toNat 0 t).1 : Nat) : Int) ∧ cR (X2) i (X i 27).toNat (csPl (rCx X i) (fW X i) (fV X i) (a).toNat 0 t).2)) ∧ ((¬ (a ≤ k)) → ((oFd X2 i ∧ (0 ≤ k ∧ k ≤ 39) ∧ 0 ≤ (0 : Int) ∧ (0 : Int) ≤ 1) ∧ (rI (mDd X2 i (k) ((0 : Int))) → ((oFd X2 i ∧ (0 ≤ k ∧ k ≤ 39) ∧ 0 ≤ (1 : Int) ∧ (1 : Int) ≤ 1) ∧ (rI (mDd X2 i (k) ((1 : Int))) → ((oH X2 Y3 i ∧ oCS (cX X2 i, kX X2 i) (X2 i 27).toNat 900 900 ∧ (0 ≤ mDd X2 i (k) ((0 : Int)) ∧ mDd X2 i (k) ((0 : Int)) ≤ 3) ∧ (mDd X2 i (k) ((0 : Int)) = 3 → 0 ≤ mDd X2 i (k) ((1 : Int)) ∧ mDd X2 i (k) ((1 : Int)) ≤ 1) ∧ (mDd X2 i (k) ((0 : Int)) ≠ 3 → 1 ≤ mDd X2 i (k) ((1 : Int)) ∧ mDd X2 i (k) ((1 : Int)) ≤ 14)) ∧ (∀ r12 : Bool, ∀ X10 : Nat → Int → Int, (∀ i j, rI (X10 i j)) → ∀ Y11 : Nat → Int → Int, (∀ i j, rL (Y11 i j)) → (r12 = csOk (X2 i 27).toNat (cX X2 i) (mDd X2 i (k) ((0 : Int))) (mDd X2 i (k) ((1 : Int))) ∧ fK X2 (X10) Y3 (Y11) i ∧ (r12 = false → (X10) = X2 ∧ (Y11) = Y3) ∧ (r12 = true → ∀ t, cR X2 i (X2 i 27).toNat t → cR (X10) i (X2 i 27).toNat (csDo (rCx X2 i) t (mDd X2 i (k) ((0 : Int))) (mDd X2 i (k) ((1 : Int)))))) → (((r12 = false) → (fK X (X10) Y (Y11) i ∧ oH (X10) (Y11) i ∧ oCS (cX (X10) i, kX (X10) i) (X i 27).toNat 615 615 ∧ ∀ t, cR X i (X i 27).toNat t → k = (((csPl (rCx X i) (fW X i) (fV X i) (a).toNat 0 t).1 : Nat) : Int) ∧ cR (X10) i (X i 27).toNat (csPl (rCx X i) (fW X i) (fV X i) (a).toNat 0 t).2)) ∧ ((r12 = true) → ((rI (k + 1)) ∧ (∃ q : Nat, k + 1 = q ∧ q ≤ a.toNat ∧ fK X X10 Y Y11 i ∧ oPl X10 Y11 i q ∧ ∀ t, cR X i (X i 27).toNat t → ∃ u, csPl (rCx X i) (fW X i) (fV X i) a.toNat 0 t = csPl (rCx X i) (fW X i) (fV X i) (a.toNat - q) q u ∧ cR X10 i (X i 27).toNat u) ∧ (((a - (k + 1)).toNat) < ((a - (k)).toNat))))))))))))))
set_option maxHeartbeats 4000000 in
set_option maxRecDepth 100000 in
theorem w_X11_play {l : Launch} {D : va_G} {cy : Nat → ClassId} {bs N : Nat} {sa : Nat → Nat} {kd len : Nat → Nat} {X Y : Nat → Int → Int} {R : Nat → Int → Option Nat} {i : Nat} (hM : zM N kd len R i) (a : Int) (ha : rI a) (hF : F_X11_play i X Y R a) : Met l yX11_play (.code yX11_play cX11_play 3 (some .int) :: zTB) (zRm 6 135) (zPc D cy bs sa N kd len X Y R [.ref (bs + (i)), .int (zI (a))]) (zQi D cy bs N kd len (fun r st => st.2.2 = R ∧ (fK X (st.1) Y (st.2.1) i ∧ oH (st.1) (st.2.1) i ∧ oCS (cX (st.1) i, kX (st.1) i) (X i 27).toNat 615 615 ∧ ∀ t, cR X i (X i 27).toNat t → r = (((csPl (rCx X i) (fW X i) (fV X i) (a).toNat 0 t).1 : Nat) : Int) ∧ cR (st.1) i (X i 27).toNat (csPl (rCx X i) (fW X i) (fV X i) (a).toNat 0 t).2))) 0 0 (zA bs) := by
  refine zstart (by decide) (Nat.le_of_ble_eq_true rfl) ?_
  intro p e s m args below meth c ls C hE hH hr hlk hnm hl hargs
  have hF := hF hH.2.2.1 hH.2.2.2
  have hS : va_S (zA bs) s.heap s.heap [] := va_S.rf
  have hl : lv_has ls 3 [(0, .ref (bs + (i))), (1, .int (zI (a)))] := hl
  refine zd_iconst C dX11_play_0 ?_
  refine lv_istore_n (lv' := [(2, .int (zI (0))), (0, .ref (bs + (i))), (1, .int (zI (a)))]) C.1 C.2.1 dX11_play_1 rfl hl (by decide) rfl (fun ls hl => ?_)
  obtain ⟨hI1, hF⟩ := hF
  have L1 : ∀ (fu : Nat) (k : Int) (X2 : Nat → Int → Int) (Y3 : Nat → Int → Int), rI k → (∃ q : Nat, k = q ∧ q ≤ a.toNat ∧ fK X X2 Y Y3 i ∧ oPl X2 Y3 i q ∧ ∀ t, cR X i (X i 27).toNat t → ∃ u, csPl (rCx X i) (fW X i) (fV X i) a.toNat 0 t = csPl (rCx X i) (fW X i) (fV X i) (a.toNat - q) q u ∧ cR X2 i (X i 27).toNat u) → ((a - (k)).toNat) < fu → ∀ (H : Heap) (locs : List Loc) (ls : Array Slot), zH D cy bs N kd len X2 Y3 R H → va_S (zA bs) s.heap H locs → lv_has ls 3 [(2, .int (zI (k))), (0, .ref (bs + (i))), (1, .int (zI (a)))] → W p l e (zRm 6 135) s m args below meth c H locs 0 0 (MQ below (zQi D cy bs N kd len (fun r st => st.2.2 = R ∧ (fK X (st.1) Y (st.2.1) i ∧ oH (st.1) (st.2.1) i ∧ oCS (cX (st.1) i, kX (st.1) i) (X i 27).toNat 615 615 ∧ ∀ t, cR X i (X i 27).toNat t → r = (((csPl (rCx X i) (fW X i) (fV X i) (a).toNat 0 t).1 : Nat) : Int) ∧ cR (st.1) i (X i 27).toNat (csPl (rCx X i) (fW X i) (fV X i) (a).toNat 0 t).2))) args s 0 0 (zA bs)) (F0 m 2 ls []) := by
    intro fu
    induction fu with
    | zero => intro k X2 Y3 _ _ hmu; exact absurd hmu (Nat.not_lt_zero _)
    | succ fu ih1 =>
      intro k X2 Y3 hk hI hmu1 H locs ls hH hS hl
      have hF := hF k X2 Y3 hk hH.2.2.1 hH.2.2.2 hI
      refine lv_iload_n C.1 C.2.1 dX11_play_2 rfl (lv_at hl 0 rfl) ?_
      refine lv_iload_n C.1 C.2.1 dX11_play_3 rfl (lv_at hl 2 rfl) ?_
      refine zd_icmp_ge C hk ha 32 dX11_play_4 (by decide) (fun c4 => ?_) (fun c4 => ?_)
      · have hF := hF.1 c4
        refine lv_iload_n C.1 C.2.1 dX11_play_32 rfl (lv_at hl 0 rfl) ?_
        exact zd_iret C hr hlk hH hS hk (⟨rfl, hF⟩) dX11_play_33
      · have hF := hF.2 c4
        refine lv_aload_n C.1 C.2.1 dX11_play_7 rfl (lv_at hl 1 rfl) ?_
        refine lv_aload_n C.1 C.2.1 dX11_play_8 rfl (lv_at hl 1 rfl) ?_
        refine lv_iload_n C.1 C.2.1 dX11_play_9 rfl (lv_at hl 0 rfl) ?_
        refine zd_iconst C dX11_play_10 ?_
        obtain ⟨o5, hF⟩ := hF
        refine zgoi (zrunV (As := [.int (zI (k)), .int (zI (0))]) (rest := [.ref (bs + (i))]) C hE hH hS hl.1 (c_X11_deedOf (l := l) hM (k) hk (0) (by decide) o5) k_RX11_358 ⟨Nat.le_of_ble_eq_true rfl, Nat.le_of_ble_eq_true rfl⟩ (zM_n0 hM) (zM_k0 hM) rfl rfl rfl (Nat.le_of_ble_eq_true rfl) dX11_play_11 ⟨Nat.zero_le _, Nat.zero_le _⟩) hS (fun rq Xq Yq Rq H locs hrq hq hH hS => ?_)
        obtain ⟨h91, h92⟩ := hq
        have h93 : Xq = X2 := congrArg (fun z => z.1) h92
        have h94 : Yq = Y3 := congrArg (fun z => z.2.1) h92
        have h95 : Rq = R := congrArg (fun z => z.2.2) h92
        rw [h93, h94, h95] at hH
        subst h91
        have hr6 := hrq
        have hF := hF hr6
        refine lv_aload_n C.1 C.2.1 dX11_play_14 rfl (lv_at hl 1 rfl) ?_
        refine lv_iload_n C.1 C.2.1 dX11_play_15 rfl (lv_at hl 0 rfl) ?_
        refine zd_iconst C dX11_play_16 ?_
        obtain ⟨o7, hF⟩ := hF
        refine zgoi (zrunV (As := [.int (zI (k)), .int (zI (1))]) (rest := [.int (zI (mDd X2 i (k) ((0 : Int)))), .ref (bs + (i))]) C hE hH hS hl.1 (c_X11_deedOf (l := l) hM (k) hk (1) (by decide) o7) k_RX11_358 ⟨Nat.le_of_ble_eq_true rfl, Nat.le_of_ble_eq_true rfl⟩ (zM_n0 hM) (zM_k0 hM) rfl rfl rfl (Nat.le_of_ble_eq_true rfl) dX11_play_17 ⟨Nat.zero_le _, Nat.zero_le _⟩) hS (fun rq Xq Yq Rq H locs hrq hq hH hS => ?_)
        obtain ⟨h91, h92⟩ := hq
        have h93 : Xq = X2 := congrArg (fun z => z.1) h92
        have h94 : Yq = Y3 := congrArg (fun z => z.2.1) h92
        have h95 : Rq = R := congrArg (fun z => z.2.2) h92
        rw [h93, h94, h95] at hH
        subst h91
        have hr8 := hrq
        have hF := hF hr8
        obtain ⟨o9, hF⟩ := hF
        refine zgoi (zrunV (As := [.int (zI (mDd X2 i (k) ((0 : Int)))), .int (zI (mDd X2 i (k) ((1 : Int))))]) (rest := []) C hE hH hS hl.1 (c_X11_does (l := l) hM (mDd X2 i (k) ((0 : Int))) hr6 (mDd X2 i (k) ((1 : Int))) hr8 o9) k_RX11_394 ⟨Nat.le_of_ble_eq_true rfl, Nat.le_of_ble_eq_true rfl⟩ (zM_n0 hM) (zM_k0 hM) rfl rfl rfl (Nat.le_of_ble_eq_true rfl) dX11_play_20 ⟨Nat.zero_le _, Nat.zero_le _⟩) hS (fun rq X10 Y11 Rq H locs hrq hq hH hS => ?_)
        obtain ⟨h9R, hq⟩ := hq
        dsimp only at h9R
        rw [h9R] at hH
        obtain ⟨r12, h91, hq⟩ := hq
        subst h91
        have hF := hF r12 X10 hH.2.2.1 Y11 hH.2.2.2 hq
        refine zd_ifB_eq C 32 dX11_play_23 (by decide) (fun c13 => ?_) (fun c13 => ?_)
        · have hF := hF.1 c13
          refine lv_iload_n C.1 C.2.1 dX11_play_32 rfl (lv_at hl 0 rfl) ?_
          exact zd_iret C hr hlk hH hS hk (⟨rfl, hF⟩) dX11_play_33
        · have hF := hF.2 c13
          refine zd_iinc (k := 0) (lv' := [(2, .int (zI (k + 1))), (0, .ref (bs + (i))), (1, .int (zI (a)))]) C hl rfl dX11_play_26 (by decide) rfl (fun ls hl => ?_)
          refine lv_goto (tgt := 2) C.1 C.2.1 dX11_play_29 (by decide) ?_
          obtain ⟨o14, hF⟩ := hF
          exact ih1 (k + 1) X10 Y11 o14 hF.1 (Nat.lt_of_lt_of_le hF.2 (Nat.le_of_lt_succ hmu1)) _ _ _ hH hS (lv_sub hl [0, 1, 2] rfl)
  exact L1 (((a - ((0 : Int))).toNat) + 1) ((0 : Int)) X Y (by decide) hI1 (Nat.lt_succ_self _) _ _ _ hH hS (lv_sub hl [0, 1, 2] rfl)
theorem v_X11_play {X Y : Nat → Int → Int} {R : Nat → Int → Option Nat} {i : Nat} (a : Int) (ha : rI a) (hp : oFd X i ∧ oFdr X i (X i 40) ∧ oPl X Y i 0 ∧ a ≤ mDn X i) : F_X11_play i X Y R a := by
  unfold F_X11_play
  intro hX hY
  obtain ⟨hfd, hf, hpl, ha⟩ := hp
  have h40 := hf.1
  have ha : a ≤ X (i + 8) (81 * X i 40) := ha
  have h27 := hpl.1.1.2.2.1
  refine ⟨⟨0, rfl, Nat.zero_le _, fK.rf, hpl, fun t ht => ⟨t, rfl, ht⟩⟩, fun k X2 Y3 kr xr yr hI => ?_⟩
  obtain ⟨q, hq, qa, f, pl, hc⟩ := hI
  subst hq
  have s27 : X2 i 27 = X i 27 := f.2.1 _ (by omega)
  have s40 : X2 i 40 = X i 40 := f.2.1 _ (by omega)
  have s8 : X2 (i + 8) = X (i + 8) := f.1 _ (by omega) (by omega)
  have eD : ∀ w, mDd X2 i q w = mDd X i q w := fun w => by
    unfold mDd
    rw [s8, s40]
  rw [eD, eD]
  have cs := pl.2
  rw [s27] at cs
  have up : oCS (cX X2 i, kX X2 i) (X i 27).toNat 615 615 := ⟨oCs_up (by omega) (by omega) cs.1, cs.2⟩
  refine ⟨fun c1 => ⟨f, pl.1, up, fun t ht => ?_⟩, fun c1 => ?_⟩
  · have e : a.toNat - q = 0 := by omega
    obtain ⟨u, hu, hr⟩ := hc t ht
    rw [e] at hu
    rw [hu]
    exact ⟨rfl, hr⟩
  obtain ⟨d1, d2, d3⟩ := hf.2 q (by omega) (by omega)
  have f2 : oFd X2 i := by
    show 0 ≤ X2 i 40 ∧ X2 i 40 ≤ 1
    rw [s40]
    exact hfd
  refine ⟨⟨f2, ⟨by omega, by omega⟩, by decide, by decide⟩, fun _ => ⟨⟨f2, ⟨by omega, by omega⟩, by decide, by decide⟩, fun _ => ⟨⟨pl.1, ?_, d1, d2, d3⟩, fun r12 X10 xr10 Y11 yr11 hd => ?_⟩⟩⟩
  · rw [s27]
    exact ⟨oCs_up (by decide) (by decide) up.1, up.2⟩
  obtain ⟨er, f3, hx, hn⟩ := hd
  rw [s27] at er hn
  rw [rCx_t f] at hn
  have st : ∀ u, csPl (rCx X i) (fW X i) (fV X i) (a.toNat - q) q u = if csOk (X i 27).toNat u.1 (mDd X i q 0) (mDd X i q 1) then csPl (rCx X i) (fW X i) (fV X i) (a.toNat - q - 1) (q + 1) (csDo (rCx X i) u (mDd X i q 0) (mDd X i q 1)) else (q, u) := fun u => by
    obtain ⟨m, hm⟩ : ∃ m, a.toNat - q = m + 1 := ⟨a.toNat - q - 1, by omega⟩
    rw [hm]
    rfl
  refine ⟨fun c => ?_, fun c => ?_⟩
  · obtain ⟨e1, e2⟩ := hx c
    rw [e1, e2]
    refine ⟨f, pl.1, up, fun t ht => ?_⟩
    obtain ⟨u, hu, hr⟩ := hc t ht
    rw [hu, st, ← hr.1, ← er, c]
    exact ⟨rfl, hr⟩
  · have own := hn c (cX X2 i, kX X2 i) ⟨rfl, fun _ _ _ => rfl⟩
    have od := oCS_do (x := rCx X i) (w := mDd X i q 0) (v := mDd X i q 1) (by show 0 < (X i 27).toNat; omega) (by show (X i 27).toNat ≤ 15; omega) cs d2
    have e28 : X10 i 28 = _ := congrFun own.1 0
    have f4 := f.tr f3
    have s27' : X10 i 27 = X i 27 := f4.2.1 _ (by omega)
    have e36 : X10 i 36 = _ := congrFun own.1 3
    refine ⟨⟨by omega, by omega⟩, ⟨q + 1, by omega, by omega, f4, ⟨oH_f f3 (by rw [e28]; exact od.2.2) pl.1, ?_⟩, fun t ht => ?_⟩, by omega⟩
    · rw [s27']
      refine ⟨?_, ?_, ?_⟩
      · show oCs (cX X10 i) _ _ _
        rw [own.1]
        exact oCs_up (by omega) (by omega) od.1
      · show mHas (X10 i 36) 0 = true
        rw [e36]
        exact od.2.1
      · show 0 ≤ X10 i 28 ∧ X10 i 28 ≤ 1
        rw [e28]
        exact od.2.2
    · obtain ⟨u, hu, hr⟩ := hc t ht
      refine ⟨csDo (rCx X i) u (mDd X i q 0) (mDd X i q 1), ?_, hn c u hr⟩
      rw [hu, st, ← hr.1, ← er, c]
      rfl
theorem c_X11_play {l : Launch} {D : va_G} {cy : Nat → ClassId} {bs N : Nat} {sa : Nat → Nat} {kd len : Nat → Nat} {X Y : Nat → Int → Int} {R : Nat → Int → Option Nat} {i : Nat} (hM : zM N kd len R i) (a : Int) (ha : rI a) (hp : oFd X i ∧ oFdr X i (X i 40) ∧ oPl X Y i 0 ∧ a ≤ mDn X i) : Met l yX11_play (.code yX11_play cX11_play 3 (some .int) :: zTB) (zRm 6 135) (zPc D cy bs sa N kd len X Y R [.ref (bs + (i)), .int (zI (a))]) (zQi D cy bs N kd len (fun r st => st.2.2 = R ∧ (fK X (st.1) Y (st.2.1) i ∧ oH (st.1) (st.2.1) i ∧ oCS (cX (st.1) i, kX (st.1) i) (X i 27).toNat 615 615 ∧ ∀ t, cR X i (X i 27).toNat t → r = (((csPl (rCx X i) (fW X i) (fV X i) (a).toNat 0 t).1 : Nat) : Int) ∧ cR (st.1) i (X i 27).toNat (csPl (rCx X i) (fW X i) (fV X i) (a).toNat 0 t).2))) 0 0 (zA bs) := w_X11_play hM a ha (v_X11_play a ha hp)
