/-! PUBLIC CALLS: what is told stays, the code is 0 -/
def pK (X X1 : Nat → Int → Int) (i : Nat) : Prop := (∀ a, a ≠ i → (a < i + 11 ∨ i + 24 < a) → X1 a = X a) ∧ X1 i 0 = 0
/-- net, blocks, feed picked -/
def hZ (X : Nat → Int → Int) (i : Nat) (n c f : Int) : Nat → Int → Int := fun a s => if a = i then (if s = 24 then n else if s = 25 then c else if s = 26 then X (i + 6) (13 * n + 6) else if s = 27 then 1 + X (i + 7) (183 * c) else if s = 28 then X (i + 6) (13 * n + 3) else if s = 29 then X (i + 6) (13 * n + 4) else if s = 30 then X (i + 6) (13 * n) else if s = 40 then f else X a s) else X a s
theorem hZ_o {X : Nat → Int → Int} {i a : Nat} {n c f : Int} (h : a ≠ i) : hZ X i n c f a = X a := funext fun _ => if_neg h
theorem hZ_s {X : Nat → Int → Int} {i : Nat} {n c f : Int} : hZ X i n c f i 24 = n ∧ hZ X i n c f i 25 = c ∧ hZ X i n c f i 26 = X (i + 6) (13 * n + 6) ∧ hZ X i n c f i 27 = 1 + X (i + 7) (183 * c) ∧ hZ X i n c f i 28 = X (i + 6) (13 * n + 3) ∧ hZ X i n c f i 29 = X (i + 6) (13 * n + 4) ∧ hZ X i n c f i 30 = X (i + 6) (13 * n) ∧ hZ X i n c f i 40 = f :=
  ⟨if_pos rfl, if_pos rfl, if_pos rfl, if_pos rfl, if_pos rfl, if_pos rfl, if_pos rfl, if_pos rfl⟩
/-- the same picked -/
def sZ (Z X : Nat → Int → Int) (i : Nat) : Prop := tS Z X i ∧ X i 28 = Z i 28 ∧ X i 29 = Z i 29
theorem hS9_Z {X0 X X1 : Nat → Int → Int} {i : Nat} {n c : Int} (f : Int) (e6 : X (i + 6) = X0 (i + 6)) (e7 : X (i + 7) = X0 (i + 7)) (g6 : X1 (i + 6) = X0 (i + 6)) (g7 : X1 (i + 7) = X0 (i + 7)) (h : hS9 X X1 i n c) : sZ (hZ X0 i n c f) X1 i := by
  obtain ⟨h1, h2, h3, h4, h5, h6, h7⟩ := h
  rw [e6] at h3 h5 h6 h7
  rw [e7] at h4
  obtain ⟨z1, z2, z3, z4, z5, z6, z7, z8⟩ := hZ_s (X := X0) (i := i) (n := n) (c := c) (f := f)
  exact ⟨⟨by rw [hZ_o (by omega)]; exact g6, by rw [hZ_o (by omega)]; exact g7, h1.trans z1.symm, h2.trans z2.symm, h3.trans z3.symm, h4.trans z4.symm, h7.trans z7.symm⟩, h5.trans z5.symm, h6.trans z6.symm⟩
theorem rCx_s {Z X : Nat → Int → Int} {i : Nat} (h : sZ Z X i) : rCx X i = rCx Z i := by
  have t := h.1
  unfold rCx
  rw [rP_t t, rW_t t, rG_t t, sdf_t t, t.2.2.2.2.2.1, h.2.2]
theorem rLd_s {Z X : Nat → Int → Int} {i : Nat} (h : sZ Z X i) : rLd X i = rLd Z i := by
  unfold rLd
  rw [rS_t h.1]
/-- how far a feed comes, and where it is then -/
def rPl (Z : Nat → Int → Int) (i k : Nat) : Nat × Cs := csPl (rCx Z i) (fW Z i) (fV Z i) k 0 (csI (Z i 28))
theorem rPl_s {Z X : Nat → Int → Int} {i : Nat} (h : sZ Z X i) (h8 : X (i + 8) = Z (i + 8)) (h40 : X i 40 = Z i 40) (k : Nat) : rPl X i k = rPl Z i k := by
  unfold rPl fW fV mDd
  rw [rCx_s h, h.2.1, h8, h40]
def rStop (X : Nat → Int → Int) (i : Nat) (n c f : Int) : Int := if mIs i X 2 f && (mIs i X 1 c && mIs i X 0 n) then (rPl (hZ X i n c f) i (X (i + 8) (81 * f)).toNat).1 else -1
def rState (X : Nat → Int → Int) (i : Nat) (n c f k w : Int) : Int := if mIs i X 2 f && (mIs i X 1 c && mIs i X 0 n) then (if mIn k 0 (X (i + 8) (81 * f)) && decide (((rPl (hZ X i n c f) i k.toNat).1 : Int) = k) then csSt (rCx (hZ X i n c f) i) (rLd (hZ X i n c f) i) (X (i + 6) (13 * n + 6)) (rPl (hZ X i n c f) i k.toNat).2 w else -1) else -1
/-- all laid: what it says of the rows told -/
theorem lA_Z {X0 X X1 Y Y1 : Nat → Int → Int} {i : Nat} {n c f : Int} (h0 : ∀ a, a ≠ i → X a = X0 a) (lk : lK X X1 Y Y1 i) (la : lA X X1 Y1 i n c f) : sZ (hZ X0 i n c f) X1 i ∧ X1 (i + 8) = hZ X0 i n c f (i + 8) ∧ X1 i 40 = hZ X0 i n c f i 40 :=
  ⟨hS9_Z f (h0 _ (by omega)) (h0 _ (by omega)) ((lk.1 _ (by omega) (by omega) (by omega) (by omega)).trans (h0 _ (by omega))) ((lk.1 _ (by omega) (by omega) (by omega) (by omega)).trans (h0 _ (by omega))) la.1, by rw [hZ_o (by omega)]; exact (lk.1 _ (by omega) (by omega) (by omega) (by omega)).trans (h0 _ (by omega)), la.2.1.trans hZ_s.2.2.2.2.2.2.2.symm⟩
theorem oTF_k {X X1 : Nat → Int → Int} {i : Nat} (h5 : X1 (i + 5) = X (i + 5)) (h8 : X1 (i + 8) = X (i + 8)) (h : oTF X i) : oTF X1 i := by
  unfold oTF oFdr at h ⊢
  rw [h5, h8]
  exact h
abbrev cX11_stop : ByteArray := prog_13_method_74_code
def yX11_stop : MethodName := ⟨RX11, "stop", "(III)I"⟩
theorem dX11_stop_0 : decode cX11_stop 0 = .ok (.aload_n 0, 1) := by decide +kernel
theorem dX11_stop_1 : decode cX11_stop 1 = .ok (.iconst 0, 1) := by decide +kernel
theorem dX11_stop_2 : decode cX11_stop 2 = .ok (.putfield 88, 3) := by decide +kernel
theorem dX11_stop_5 : decode cX11_stop 5 = .ok (.aload_n 0, 1) := by decide +kernel
theorem dX11_stop_6 : decode cX11_stop 6 = .ok (.iload_n 1, 1) := by decide +kernel
theorem dX11_stop_7 : decode cX11_stop 7 = .ok (.iload_n 2, 1) := by decide +kernel
theorem dX11_stop_8 : decode cX11_stop 8 = .ok (.iload_n 3, 1) := by decide +kernel
theorem dX11_stop_9 : decode cX11_stop 9 = .ok (.invokevirtual 403, 3) := by decide +kernel
theorem dX11_stop_12 : decode cX11_stop 12 = .ok (.ifCond .eq 14, 3) := by decide +kernel
theorem dX11_stop_15 : decode cX11_stop 15 = .ok (.aload_n 0, 1) := by decide +kernel
theorem dX11_stop_16 : decode cX11_stop 16 = .ok (.aload_n 0, 1) := by decide +kernel
theorem dX11_stop_17 : decode cX11_stop 17 = .ok (.invokevirtual 355, 3) := by decide +kernel
theorem dX11_stop_20 : decode cX11_stop 20 = .ok (.invokevirtual 406, 3) := by decide +kernel
theorem dX11_stop_23 : decode cX11_stop 23 = .ok (.goto 4, 3) := by decide +kernel
theorem dX11_stop_26 : decode cX11_stop 26 = .ok (.iconst (-1), 1) := by decide +kernel
theorem dX11_stop_27 : decode cX11_stop 27 = .ok (.ireturn, 1) := by decide +kernel
theorem q_1287 : Cond.fieldLink RX11 88 RX11 "code" "I" ∈ zTB := zmem 1287 (by decide +kernel) rfl
theorem q_1665 : Cond.methodLink RX11 403 yX11_layAll ∈ zTB := zmem 1665 (by decide +kernel) rfl
theorem q_1667 : Cond.instanceMethod yX11_layAll ∈ zTB := zmem 1667 (by decide +kernel) rfl
theorem q_65 : Cond.selects RX11 yX11_layAll yX11_layAll ∈ zTB := zmem 65 (by decide +kernel) rfl
theorem q_1668 : Cond.code yX11_layAll cX11_layAll 4 (some .boolean) ∈ zTB := zmem 1668 (by decide +kernel) rfl
theorem k_RX11_403 : zLv RX11 403 RX11 yX11_layAll cX11_layAll 4 (some .boolean) 3 := ⟨⟨q_1665, q_1667, q_65, q_140, q_1668⟩, rfl, ⟨by decide, by decide⟩, by decide +kernel⟩
theorem q_1653 : Cond.methodLink RX11 355 yX11_deeds ∈ zTB := zmem 1653 (by decide +kernel) rfl
theorem q_1655 : Cond.instanceMethod yX11_deeds ∈ zTB := zmem 1655 (by decide +kernel) rfl
theorem q_63 : Cond.selects RX11 yX11_deeds yX11_deeds ∈ zTB := zmem 63 (by decide +kernel) rfl
theorem q_1656 : Cond.code yX11_deeds cX11_deeds 1 (some .int) ∈ zTB := zmem 1656 (by decide +kernel) rfl
theorem k_RX11_355 : zLv RX11 355 RX11 yX11_deeds cX11_deeds 1 (some .int) 0 := ⟨⟨q_1653, q_1655, q_63, q_140, q_1656⟩, rfl, ⟨by decide, by decide⟩, by decide +kernel⟩
theorem q_1720 : Cond.methodLink RX11 406 yX11_play ∈ zTB := zmem 1720 (by decide +kernel) rfl
theorem q_1722 : Cond.instanceMethod yX11_play ∈ zTB := zmem 1722 (by decide +kernel) rfl
theorem q_77 : Cond.selects RX11 yX11_play yX11_play ∈ zTB := zmem 77 (by decide +kernel) rfl
theorem q_1723 : Cond.code yX11_play cX11_play 3 (some .int) ∈ zTB := zmem 1723 (by decide +kernel) rfl
theorem k_RX11_406 : zLv RX11 406 RX11 yX11_play cX11_play 3 (some .int) 1 := ⟨⟨q_1720, q_1722, q_77, q_140, q_1723⟩, rfl, ⟨by decide, by decide⟩, by decide +kernel⟩
def F_X11_stop (i : Nat) (X Y : Nat → Int → Int) (R : Nat → Int → Option Nat) (a : Int) (b : Int) (g : Int) : Prop := (∀ i j, rI (X i j)) → (∀ i j, rL (Y i j)) → ∀ X1 : Nat → Int → Int, X1 = zU X (i) 0 (0) → (∀ i j, rI (X1 i j)) → ((oTN X1 i) ∧ (∀ r5 : Bool, ∀ X3 : Nat → Int → Int, (∀ i j, rI (X3 i j)) → ∀ Y4 : Nat → Int → Int, (∀ i j, rL (Y4 i j)) → (r5 = (mIs i X1 2 (g) && (mIs i X1 1 (b) && mIs i X1 0 (a))) ∧ lK X1 (X3) Y (Y4) i ∧ (r5 = true → lA X1 (X3) (Y4) i (a) (b) (g))) → (((r5 = false) → ((-1) = rStop X i (a) (b) (g) ∧ pK X (X3) i)) ∧ ((r5 = true) → ((oFd X3 i) ∧ (rI (mDn X3 i) → ((oFd X3 i ∧ oFdr X3 i (X3 i 40) ∧ oPl X3 Y4 i 0 ∧ mDn X3 i ≤ mDn X3 i) ∧ (∀ r12 : Int, rI r12 → ∀ X10 : Nat → Int → Int, (∀ i j, rI (X10 i j)) → ∀ Y11 : Nat → Int → Int, (∀ i j, rL (Y11 i j)) → (fK X3 (X10) Y4 (Y11) i ∧ oH (X10) (Y11) i ∧ oCS (cX (X10) i, kX (X10) i) (X3 i 27).toNat 615 615 ∧ ∀ t, cR X3 i (X3 i 27).toNat t → r12 = (((csPl (rCx X3 i) (fW X3 i) (fV X3 i) (mDn X3 i).toNat 0 t).1 : Nat) : Int) ∧ cR (X10) i (X3 i 27).toNat (csPl (rCx X3 i) (fW X3 i) (fV X3 i) (mDn X3 i).toNat 0 t).2) → (r12 = rStop X i (a) (b) (g) ∧ pK X (X10) i)))))))))
set_option maxHeartbeats 4000000 in
set_option maxRecDepth 100000 in
theorem w_X11_stop {l : Launch} {D : va_G} {cy : Nat → ClassId} {bs N : Nat} {sa : Nat → Nat} {kd len : Nat → Nat} {X Y : Nat → Int → Int} {R : Nat → Int → Option Nat} {i : Nat} (hM : zM N kd len R i) (a : Int) (ha : rI a) (b : Int) (hb : rI b) (g : Int) (hg : rI g) (hF : F_X11_stop i X Y R a b g) : Met l yX11_stop (.code yX11_stop cX11_stop 4 (some .int) :: zTB) (zRm 7 163) (zPc D cy bs sa N kd len X Y R [.ref (bs + (i)), .int (zI (a)), .int (zI (b)), .int (zI (g))]) (zQi D cy bs N kd len (fun r st => st.2.2 = R ∧ (r = rStop X i (a) (b) (g) ∧ pK X (st.1) i))) 0 0 (zA bs) := by
  refine zstart (by decide) (Nat.le_of_ble_eq_true rfl) ?_
  intro p e s m args below meth c ls C hE hH hr hlk hnm hl hargs
  have hF := hF hH.2.2.1 hH.2.2.2
  have hS : va_S (zA bs) s.heap s.heap [] := va_S.rf
  have hl : lv_has ls 4 [(0, .ref (bs + (i))), (1, .int (zI (a))), (2, .int (zI (b))), (3, .int (zI (g)))] := hl
  refine lv_aload_n C.1 C.2.1 dX11_stop_0 rfl (lv_at hl 0 rfl) ?_
  refine zd_iconst C dX11_stop_1 ?_
  refine zp11_0 C hH hS (zM_n0 hM) (zM_k0 hM) q_1287 (by decide) dX11_stop_2 (fun H locs hH hS => ?_)
  obtain ⟨X1, eX1⟩ : ∃ z, z = zU X (i) 0 (0) := ⟨_, rfl⟩
  rw [← eX1] at hH
  have hF := hF X1 eX1 hH.2.2.1
  refine lv_aload_n C.1 C.2.1 dX11_stop_5 rfl (lv_at hl 0 rfl) ?_
  refine lv_iload_n C.1 C.2.1 dX11_stop_6 rfl (lv_at hl 1 rfl) ?_
  refine lv_iload_n C.1 C.2.1 dX11_stop_7 rfl (lv_at hl 2 rfl) ?_
  refine lv_iload_n C.1 C.2.1 dX11_stop_8 rfl (lv_at hl 3 rfl) ?_
  obtain ⟨o2, hF⟩ := hF
  refine zgoi (zrunV (As := [.int (zI (a)), .int (zI (b)), .int (zI (g))]) (rest := []) C hE hH hS hl.1 (c_X11_layAll (l := l) hM (a) ha (b) hb (g) hg o2) k_RX11_403 ⟨Nat.le_of_ble_eq_true rfl, Nat.le_of_ble_eq_true rfl⟩ (zM_n0 hM) (zM_k0 hM) rfl rfl rfl (Nat.le_of_ble_eq_true rfl) dX11_stop_9 ⟨Nat.zero_le _, Nat.zero_le _⟩) hS (fun rq X3 Y4 Rq H locs hrq hq hH hS => ?_)
  obtain ⟨h9R, hq⟩ := hq
  dsimp only at h9R
  rw [h9R] at hH
  obtain ⟨r5, h91, hq⟩ := hq
  subst h91
  have hF := hF r5 X3 hH.2.2.1 Y4 hH.2.2.2 hq
  refine zd_ifB_eq C 26 dX11_stop_12 (by decide) (fun c6 => ?_) (fun c6 => ?_)
  · have hF := hF.1 c6
    refine zd_iconst C dX11_stop_26 ?_
    exact zd_iret C hr hlk hH hS (by decide) (⟨rfl, hF⟩) dX11_stop_27
  · have hF := hF.2 c6
    refine lv_aload_n C.1 C.2.1 dX11_stop_15 rfl (lv_at hl 0 rfl) ?_
    refine lv_aload_n C.1 C.2.1 dX11_stop_16 rfl (lv_at hl 0 rfl) ?_
    obtain ⟨o7, hF⟩ := hF
    refine zgoi (zrunV (As := []) (rest := [.ref (bs + (i))]) C hE hH hS hl.1 (c_X11_deeds (l := l) hM  o7) k_RX11_355 ⟨Nat.le_of_ble_eq_true rfl, Nat.le_of_ble_eq_true rfl⟩ (zM_n0 hM) (zM_k0 hM) rfl rfl rfl (Nat.le_of_ble_eq_true rfl) dX11_stop_17 ⟨Nat.zero_le _, Nat.zero_le _⟩) hS (fun rq Xq Yq Rq H locs hrq hq hH hS => ?_)
    obtain ⟨h91, h92⟩ := hq
    have h93 : Xq = X3 := congrArg (fun z => z.1) h92
    have h94 : Yq = Y4 := congrArg (fun z => z.2.1) h92
    have h95 : Rq = R := congrArg (fun z => z.2.2) h92
    rw [h93, h94, h95] at hH
    subst h91
    have hr8 := hrq
    have hF := hF hr8
    obtain ⟨o9, hF⟩ := hF
    refine zgoi (zrunV (As := [.int (zI (mDn X3 i))]) (rest := []) C hE hH hS hl.1 (c_X11_play (l := l) hM (mDn X3 i) hr8 o9) k_RX11_406 ⟨Nat.le_of_ble_eq_true rfl, Nat.le_of_ble_eq_true rfl⟩ (zM_n0 hM) (zM_k0 hM) rfl rfl rfl (Nat.le_of_ble_eq_true rfl) dX11_stop_20 ⟨Nat.zero_le _, Nat.zero_le _⟩) hS (fun r12 X10 Y11 Rq H locs hrq hq hH hS => ?_)
    obtain ⟨h9R, hq⟩ := hq
    dsimp only at h9R
    rw [h9R] at hH
    have hr12 := hrq
    have hF := hF r12 hrq X10 hH.2.2.1 Y11 hH.2.2.2 hq
    refine lv_goto (tgt := 27) C.1 C.2.1 dX11_stop_23 (by decide) ?_
    exact zd_iret C hr hlk hH hS hr12 (⟨rfl, hF⟩) dX11_stop_27
theorem v_X11_stop {X Y : Nat → Int → Int} {R : Nat → Int → Option Nat} {i : Nat} (a : Int) (ha : rI a) (b : Int) (hb : rI b) (g : Int) (hg : rI g) (hp : oTN X i ∧ oTF X i) : F_X11_stop i X Y R a b g := by
  unfold F_X11_stop
  intro hX hY
  obtain ⟨hT, hF⟩ := hp
  intro X1 e1 xr1
  have o1 : ∀ a, a ≠ i → X1 a = X a := fun a h => by rw [e1, zU_o h]
  have c1 : X1 i 0 = 0 := by rw [e1, zU_s]
  have em : ∀ s k, mIs i X1 s k = mIs i X s k := fun s k => by
    unfold mIs
    rw [o1 _ (by omega)]
  refine ⟨oTN_k (o1 _ (by omega)) (o1 _ (by omega)) (o1 _ (by omega)) hT, fun r5 X3 xr3 Y4 yr4 h5 => ?_⟩
  obtain ⟨e5, lk, h5⟩ := h5
  rw [em, em, em] at e5
  have p3 : pK X X3 i := ⟨fun a h1 h2 => (lk.1 a h1 (by omega) (by omega) (by omega)).trans (o1 a h1), (lk.2.1 0 (by omega)).trans c1⟩
  have p4 : ∀ {X4 Y5}, fK X3 X4 Y4 Y5 i → pK X X4 i := fun f => ⟨fun a h1 h2 => (f.1 a h1 (by omega)).trans (p3.1 a h1 h2), (f.2.1 0 (by omega)).trans p3.2⟩
  refine ⟨fun c5 => ⟨?_, p3⟩, fun c5 => ?_⟩
  · unfold rStop
    rw [← e5, c5]
    rfl
  have la := h5 c5
  obtain ⟨z, z8, z40⟩ := lA_Z o1 lk la
  have e40 : X3 i 40 = g := la.2.1
  have hg : 0 ≤ g ∧ g < X (i + 5) 2 := by
    rw [c5] at e5
    have e := e5.symm
    simp only [Bool.and_eq_true] at e
    exact mIs_t.mp e.1
  have h52 := hT.1 2 (by decide) (by decide)
  have fd : oFd X3 i := by
    show 0 ≤ X3 i 40 ∧ X3 i 40 ≤ 1
    rw [e40]
    exact ⟨by omega, by omega⟩
  have fr : oFdr X3 i (X3 i 40) := by
    rw [e40]
    refine oTF_k (p3.1 _ (by omega) (by omega)) (p3.1 _ (by omega) (by omega)) hF g hg.1 ?_
    rw [p3.1 _ (by omega) (by omega)]
    exact hg.2
  have eD : mDn X3 i = X (i + 8) (81 * g) := by
    unfold mDn
    rw [e40, p3.1 _ (by omega) (by omega)]
  have pl := la.2.2.1
  have ci := la.2.2.2
  have hn := pl.1.1.2.2.1
  refine ⟨fd, fun _ => ?_⟩
  rw [eD]
  refine ⟨⟨fd, fr, pl, Int.le_refl _⟩, fun r12 rr X10 xr10 Y11 yr11 h12 => ?_⟩
  obtain ⟨f, -, -, h12⟩ := h12
  refine ⟨?_, p4 f⟩
  rw [(h12 _ ci).1]
  unfold rStop
  rw [← e5, c5, if_pos rfl]
  have q := rPl_s z z8 z40 (X (i + 8) (81 * g)).toNat
  rw [← q]
  rfl
theorem c_X11_stop {l : Launch} {D : va_G} {cy : Nat → ClassId} {bs N : Nat} {sa : Nat → Nat} {kd len : Nat → Nat} {X Y : Nat → Int → Int} {R : Nat → Int → Option Nat} {i : Nat} (hM : zM N kd len R i) (a : Int) (ha : rI a) (b : Int) (hb : rI b) (g : Int) (hg : rI g) (hp : oTN X i ∧ oTF X i) : Met l yX11_stop (.code yX11_stop cX11_stop 4 (some .int) :: zTB) (zRm 7 163) (zPc D cy bs sa N kd len X Y R [.ref (bs + (i)), .int (zI (a)), .int (zI (b)), .int (zI (g))]) (zQi D cy bs N kd len (fun r st => st.2.2 = R ∧ (r = rStop X i (a) (b) (g) ∧ pK X (st.1) i))) 0 0 (zA bs) := w_X11_stop hM a ha b hb g hg (v_X11_stop a ha b hb g hg hp)
abbrev cX11_state : ByteArray := prog_13_method_78_code
def yX11_state : MethodName := ⟨RX11, "state", "(IIIII)I"⟩
theorem dX11_state_0 : decode cX11_state 0 = .ok (.aload_n 0, 1) := by decide +kernel
theorem dX11_state_1 : decode cX11_state 1 = .ok (.iconst 0, 1) := by decide +kernel
theorem dX11_state_2 : decode cX11_state 2 = .ok (.putfield 88, 3) := by decide +kernel
theorem dX11_state_5 : decode cX11_state 5 = .ok (.aload_n 0, 1) := by decide +kernel
theorem dX11_state_6 : decode cX11_state 6 = .ok (.iload_n 1, 1) := by decide +kernel
theorem dX11_state_7 : decode cX11_state 7 = .ok (.iload_n 2, 1) := by decide +kernel
theorem dX11_state_8 : decode cX11_state 8 = .ok (.iload_n 3, 1) := by decide +kernel
theorem dX11_state_9 : decode cX11_state 9 = .ok (.invokevirtual 403, 3) := by decide +kernel
theorem dX11_state_12 : decode cX11_state 12 = .ok (.ifCond .eq 36, 3) := by decide +kernel
theorem dX11_state_15 : decode cX11_state 15 = .ok (.iload 4, 2) := by decide +kernel
theorem dX11_state_17 : decode cX11_state 17 = .ok (.iconst 0, 1) := by decide +kernel
theorem dX11_state_18 : decode cX11_state 18 = .ok (.aload_n 0, 1) := by decide +kernel
theorem dX11_state_19 : decode cX11_state 19 = .ok (.invokevirtual 355, 3) := by decide +kernel
theorem dX11_state_22 : decode cX11_state 22 = .ok (.invokestatic 100, 3) := by decide +kernel
theorem dX11_state_25 : decode cX11_state 25 = .ok (.ifCond .eq 23, 3) := by decide +kernel
theorem dX11_state_28 : decode cX11_state 28 = .ok (.aload_n 0, 1) := by decide +kernel
theorem dX11_state_29 : decode cX11_state 29 = .ok (.iload 4, 2) := by decide +kernel
theorem dX11_state_31 : decode cX11_state 31 = .ok (.invokevirtual 406, 3) := by decide +kernel
theorem dX11_state_34 : decode cX11_state 34 = .ok (.iload 4, 2) := by decide +kernel
theorem dX11_state_36 : decode cX11_state 36 = .ok (.if_icmp .ne 12, 3) := by decide +kernel
theorem dX11_state_39 : decode cX11_state 39 = .ok (.aload_n 0, 1) := by decide +kernel
theorem dX11_state_40 : decode cX11_state 40 = .ok (.iload 5, 2) := by decide +kernel
theorem dX11_state_42 : decode cX11_state 42 = .ok (.invokevirtual 415, 3) := by decide +kernel
theorem dX11_state_45 : decode cX11_state 45 = .ok (.goto 4, 3) := by decide +kernel
theorem dX11_state_48 : decode cX11_state 48 = .ok (.iconst (-1), 1) := by decide +kernel
theorem dX11_state_49 : decode cX11_state 49 = .ok (.ireturn, 1) := by decide +kernel
theorem q_1771 : Cond.methodLink RX11 415 yX11_ofState ∈ zTB := zmem 1771 (by decide +kernel) rfl
theorem q_1773 : Cond.instanceMethod yX11_ofState ∈ zTB := zmem 1773 (by decide +kernel) rfl
theorem q_88 : Cond.selects RX11 yX11_ofState yX11_ofState ∈ zTB := zmem 88 (by decide +kernel) rfl
theorem q_1774 : Cond.code yX11_ofState cX11_ofState 2 (some .int) ∈ zTB := zmem 1774 (by decide +kernel) rfl
theorem k_RX11_415 : zLv RX11 415 RX11 yX11_ofState cX11_ofState 2 (some .int) 1 := ⟨⟨q_1771, q_1773, q_88, q_140, q_1774⟩, rfl, ⟨by decide, by decide⟩, by decide +kernel⟩
def F_X11_state (i : Nat) (X Y : Nat → Int → Int) (R : Nat → Int → Option Nat) (a : Int) (b : Int) (g : Int) (d : Int) (f : Int) : Prop := (∀ i j, rI (X i j)) → (∀ i j, rL (Y i j)) → ∀ X1 : Nat → Int → Int, X1 = zU X (i) 0 (0) → (∀ i j, rI (X1 i j)) → ((oTN X1 i) ∧ (∀ r5 : Bool, ∀ X3 : Nat → Int → Int, (∀ i j, rI (X3 i j)) → ∀ Y4 : Nat → Int → Int, (∀ i j, rL (Y4 i j)) → (r5 = (mIs i X1 2 (g) && (mIs i X1 1 (b) && mIs i X1 0 (a))) ∧ lK X1 (X3) Y (Y4) i ∧ (r5 = true → lA X1 (X3) (Y4) i (a) (b) (g))) → (((r5 = false) → ((-1) = rState X i (a) (b) (g) (d) (f) ∧ pK X (X3) i)) ∧ ((r5 = true) → ((oFd X3 i) ∧ (rI (mDn X3 i) → ((((mIn (d) ((0 : Int)) (mDn X3 i)) = false) → ((-1) = rState X i (a) (b) (g) (d) (f) ∧ pK X (X3) i)) ∧ (((mIn (d) ((0 : Int)) (mDn X3 i)) = true) → ((oFd X3 i ∧ oFdr X3 i (X3 i 40) ∧ oPl X3 Y4 i 0 ∧ d ≤ mDn X3 i) ∧ (∀ r13 : Int, rI r13 → ∀ X11 : Nat → Int → Int, (∀ i j, rI (X11 i j)) → ∀ Y12 : Nat → Int → Int, (∀ i j, rL (Y12 i j)) → (fK X3 (X11) Y4 (Y12) i ∧ oH (X11) (Y12) i ∧ oCS (cX (X11) i, kX (X11) i) (X3 i 27).toNat 615 615 ∧ ∀ t, cR X3 i (X3 i 27).toNat t → r13 = (((csPl (rCx X3 i) (fW X3 i) (fV X3 i) (d).toNat 0 t).1 : Nat) : Int) ∧ cR (X11) i (X3 i 27).toNat (csPl (rCx X3 i) (fW X3 i) (fV X3 i) (d).toNat 0 t).2) → (((¬ r13 = d) → ((-1) = rState X i (a) (b) (g) (d) (f) ∧ pK X (X11) i)) ∧ ((¬ (¬ r13 = d)) → ((oH X11 Y12 i ∧ 0 ≤ X11 i 43 ∧ X11 i 43 < X11 i 27) ∧ (∀ r16 : Int, rI r16 → (∀ t, cR X11 i (X11 i 27).toNat t → oWh (rCx X11 i) t → r16 = csSt (rCx X11 i) (rLd X11 i) (X11 i 26) t (f)) → (r16 = rState X i (a) (b) (g) (d) (f) ∧ pK X (X11) i)))))))))))))))
set_option maxHeartbeats 4000000 in
set_option maxRecDepth 100000 in
theorem w_X11_state {l : Launch} {D : va_G} {cy : Nat → ClassId} {bs N : Nat} {sa : Nat → Nat} {kd len : Nat → Nat} {X Y : Nat → Int → Int} {R : Nat → Int → Option Nat} {i : Nat} (hM : zM N kd len R i) (a : Int) (ha : rI a) (b : Int) (hb : rI b) (g : Int) (hg : rI g) (d : Int) (hd : rI d) (f : Int) (hf : rI f) (hF : F_X11_state i X Y R a b g d f) : Met l yX11_state (.code yX11_state cX11_state 6 (some .int) :: zTB) (zRm 7 163) (zPc D cy bs sa N kd len X Y R [.ref (bs + (i)), .int (zI (a)), .int (zI (b)), .int (zI (g)), .int (zI (d)), .int (zI (f))]) (zQi D cy bs N kd len (fun r st => st.2.2 = R ∧ (r = rState X i (a) (b) (g) (d) (f) ∧ pK X (st.1) i))) 0 0 (zA bs) := by
  refine zstart (by decide) (Nat.le_of_ble_eq_true rfl) ?_
  intro p e s m args below meth c ls C hE hH hr hlk hnm hl hargs
  have hF := hF hH.2.2.1 hH.2.2.2
  have hS : va_S (zA bs) s.heap s.heap [] := va_S.rf
  have hl : lv_has ls 6 [(0, .ref (bs + (i))), (1, .int (zI (a))), (2, .int (zI (b))), (3, .int (zI (g))), (4, .int (zI (d))), (5, .int (zI (f)))] := hl
  refine lv_aload_n C.1 C.2.1 dX11_state_0 rfl (lv_at hl 0 rfl) ?_
  refine zd_iconst C dX11_state_1 ?_
  refine zp11_0 C hH hS (zM_n0 hM) (zM_k0 hM) q_1287 (by decide) dX11_state_2 (fun H locs hH hS => ?_)
  obtain ⟨X1, eX1⟩ : ∃ z, z = zU X (i) 0 (0) := ⟨_, rfl⟩
  rw [← eX1] at hH
  have hF := hF X1 eX1 hH.2.2.1
  refine lv_aload_n C.1 C.2.1 dX11_state_5 rfl (lv_at hl 0 rfl) ?_
  refine lv_iload_n C.1 C.2.1 dX11_state_6 rfl (lv_at hl 1 rfl) ?_
  refine lv_iload_n C.1 C.2.1 dX11_state_7 rfl (lv_at hl 2 rfl) ?_
  refine lv_iload_n C.1 C.2.1 dX11_state_8 rfl (lv_at hl 3 rfl) ?_
  obtain ⟨o2, hF⟩ := hF
  refine zgoi (zrunV (As := [.int (zI (a)), .int (zI (b)), .int (zI (g))]) (rest := []) C hE hH hS hl.1 (c_X11_layAll (l := l) hM (a) ha (b) hb (g) hg o2) k_RX11_403 ⟨Nat.le_of_ble_eq_true rfl, Nat.le_of_ble_eq_true rfl⟩ (zM_n0 hM) (zM_k0 hM) rfl rfl rfl (Nat.le_of_ble_eq_true rfl) dX11_state_9 ⟨Nat.zero_le _, Nat.zero_le _⟩) hS (fun rq X3 Y4 Rq H locs hrq hq hH hS => ?_)
  obtain ⟨h9R, hq⟩ := hq
  dsimp only at h9R
  rw [h9R] at hH
  obtain ⟨r5, h91, hq⟩ := hq
  subst h91
  have hF := hF r5 X3 hH.2.2.1 Y4 hH.2.2.2 hq
  refine zd_ifB_eq C 48 dX11_state_12 (by decide) (fun c6 => ?_) (fun c6 => ?_)
  · have hF := hF.1 c6
    refine zd_iconst C dX11_state_48 ?_
    exact zd_iret C hr hlk hH hS (by decide) (⟨rfl, hF⟩) dX11_state_49
  · have hF := hF.2 c6
    refine lv_iload C.1 C.2.1 dX11_state_15 (lv_at hl 4 rfl) ?_
    refine zd_iconst C dX11_state_17 ?_
    refine lv_aload_n C.1 C.2.1 dX11_state_18 rfl (lv_at hl 0 rfl) ?_
    obtain ⟨o7, hF⟩ := hF
    refine zgoi (zrunV (As := []) (rest := [.int (zI (0)), .int (zI (d))]) C hE hH hS hl.1 (c_X11_deeds (l := l) hM  o7) k_RX11_355 ⟨Nat.le_of_ble_eq_true rfl, Nat.le_of_ble_eq_true rfl⟩ (zM_n0 hM) (zM_k0 hM) rfl rfl rfl (Nat.le_of_ble_eq_true rfl) dX11_state_19 ⟨Nat.zero_le _, Nat.zero_le _⟩) hS (fun rq Xq Yq Rq H locs hrq hq hH hS => ?_)
    obtain ⟨h91, h92⟩ := hq
    have h93 : Xq = X3 := congrArg (fun z => z.1) h92
    have h94 : Yq = Y4 := congrArg (fun z => z.2.1) h92
    have h95 : Rq = R := congrArg (fun z => z.2.2) h92
    rw [h93, h94, h95] at hH
    subst h91
    have hr8 := hrq
    have hF := hF hr8
    refine zgoi (zrunS (As := [.int (zI (d)), .int (zI (0)), .int (zI (mDn X3 i))]) (rest := []) C hE hH hS hl.1 (c_X11_in (l := l)  (d) hd (0) (by decide) (mDn X3 i) hr8) k_RX11_100 ⟨Nat.le_of_ble_eq_true rfl, Nat.le_of_ble_eq_true rfl⟩ rfl (Nat.le_of_ble_eq_true rfl) dX11_state_22 ⟨Nat.zero_le _, Nat.zero_le _⟩) hS (fun rq Xq Yq Rq H locs hrq hq hH hS => ?_)
    obtain ⟨h91, h92⟩ := hq
    have h93 : Xq = X3 := congrArg (fun z => z.1) h92
    have h94 : Yq = Y4 := congrArg (fun z => z.2.1) h92
    have h95 : Rq = R := congrArg (fun z => z.2.2) h92
    rw [h93, h94, h95] at hH
    subst h91
    refine zd_ifB_eq C 48 dX11_state_25 (by decide) (fun c9 => ?_) (fun c9 => ?_)
    · have hF := hF.1 c9
      refine zd_iconst C dX11_state_48 ?_
      exact zd_iret C hr hlk hH hS (by decide) (⟨rfl, hF⟩) dX11_state_49
    · have hF := hF.2 c9
      refine lv_aload_n C.1 C.2.1 dX11_state_28 rfl (lv_at hl 0 rfl) ?_
      refine lv_iload C.1 C.2.1 dX11_state_29 (lv_at hl 4 rfl) ?_
      obtain ⟨o10, hF⟩ := hF
      refine zgoi (zrunV (As := [.int (zI (d))]) (rest := []) C hE hH hS hl.1 (c_X11_play (l := l) hM (d) hd o10) k_RX11_406 ⟨Nat.le_of_ble_eq_true rfl, Nat.le_of_ble_eq_true rfl⟩ (zM_n0 hM) (zM_k0 hM) rfl rfl rfl (Nat.le_of_ble_eq_true rfl) dX11_state_31 ⟨Nat.zero_le _, Nat.zero_le _⟩) hS (fun r13 X11 Y12 Rq H locs hrq hq hH hS => ?_)
      obtain ⟨h9R, hq⟩ := hq
      dsimp only at h9R
      rw [h9R] at hH
      have hr13 := hrq
      have hF := hF r13 hrq X11 hH.2.2.1 Y12 hH.2.2.2 hq
      refine lv_iload C.1 C.2.1 dX11_state_34 (lv_at hl 4 rfl) ?_
      refine zd_icmp_ne C hr13 hd 48 dX11_state_36 (by decide) (fun c14 => ?_) (fun c14 => ?_)
      · have hF := hF.1 c14
        refine zd_iconst C dX11_state_48 ?_
        exact zd_iret C hr hlk hH hS (by decide) (⟨rfl, hF⟩) dX11_state_49
      · have hF := hF.2 c14
        refine lv_aload_n C.1 C.2.1 dX11_state_39 rfl (lv_at hl 0 rfl) ?_
        refine lv_iload C.1 C.2.1 dX11_state_40 (lv_at hl 5 rfl) ?_
        obtain ⟨o15, hF⟩ := hF
        refine zgoi (zrunV (As := [.int (zI (f))]) (rest := []) C hE hH hS hl.1 (c_X11_ofState (l := l) hM (f) hf o15) k_RX11_415 ⟨Nat.le_of_ble_eq_true rfl, Nat.le_of_ble_eq_true rfl⟩ (zM_n0 hM) (zM_k0 hM) rfl rfl rfl (Nat.le_of_ble_eq_true rfl) dX11_state_42 ⟨Nat.zero_le _, Nat.zero_le _⟩) hS (fun r16 Xq Yq Rq H locs hrq hq hH hS => ?_)
        obtain ⟨h9X, h9Y, h9R, hq⟩ := hq
        dsimp only at h9X h9Y h9R
        rw [h9X, h9Y, h9R] at hH
        have hr16 := hrq
        have hF := hF r16 hrq hq
        refine lv_goto (tgt := 49) C.1 C.2.1 dX11_state_45 (by decide) ?_
        exact zd_iret C hr hlk hH hS hr16 (⟨rfl, hF⟩) dX11_state_49
theorem v_X11_state {X Y : Nat → Int → Int} {R : Nat → Int → Option Nat} {i : Nat} (a : Int) (ha : rI a) (b : Int) (hb : rI b) (g : Int) (hg : rI g) (d : Int) (hd : rI d) (f : Int) (hf : rI f) (hp : oTN X i ∧ oTF X i) : F_X11_state i X Y R a b g d f := by
  unfold F_X11_state
  intro hX hY
  obtain ⟨hT, hF⟩ := hp
  intro X1 e1 xr1
  have o1 : ∀ a, a ≠ i → X1 a = X a := fun a h => by rw [e1, zU_o h]
  have c1 : X1 i 0 = 0 := by rw [e1, zU_s]
  have em : ∀ s k, mIs i X1 s k = mIs i X s k := fun s k => by
    unfold mIs
    rw [o1 _ (by omega)]
  refine ⟨oTN_k (o1 _ (by omega)) (o1 _ (by omega)) (o1 _ (by omega)) hT, fun r5 X3 xr3 Y4 yr4 h5 => ?_⟩
  obtain ⟨e5, lk, h5⟩ := h5
  rw [em, em, em] at e5
  have p3 : pK X X3 i := ⟨fun a h1 h2 => (lk.1 a h1 (by omega) (by omega) (by omega)).trans (o1 a h1), (lk.2.1 0 (by omega)).trans c1⟩
  have p4 : ∀ {X4 Y5}, fK X3 X4 Y4 Y5 i → pK X X4 i := fun f => ⟨fun a h1 h2 => (f.1 a h1 (by omega)).trans (p3.1 a h1 h2), (f.2.1 0 (by omega)).trans p3.2⟩
  refine ⟨fun c5 => ⟨?_, p3⟩, fun c5 => ?_⟩
  · unfold rState
    rw [← e5, c5]
    rfl
  have la := h5 c5
  obtain ⟨z, z8, z40⟩ := lA_Z o1 lk la
  have e40 : X3 i 40 = g := la.2.1
  have hg : 0 ≤ g ∧ g < X (i + 5) 2 := by
    rw [c5] at e5
    have e := e5.symm
    simp only [Bool.and_eq_true] at e
    exact mIs_t.mp e.1
  have h52 := hT.1 2 (by decide) (by decide)
  have fd : oFd X3 i := by
    show 0 ≤ X3 i 40 ∧ X3 i 40 ≤ 1
    rw [e40]
    exact ⟨by omega, by omega⟩
  have fr : oFdr X3 i (X3 i 40) := by
    rw [e40]
    refine oTF_k (p3.1 _ (by omega) (by omega)) (p3.1 _ (by omega) (by omega)) hF g hg.1 ?_
    rw [p3.1 _ (by omega) (by omega)]
    exact hg.2
  have eD : mDn X3 i = X (i + 8) (81 * g) := by
    unfold mDn
    rw [e40, p3.1 _ (by omega) (by omega)]
  have pl := la.2.2.1
  have ci := la.2.2.2
  have hn := pl.1.1.2.2.1
  refine ⟨fd, fun _ => ?_⟩
  rw [eD]
  have q := rPl_s z z8 z40 d.toNat
  have e26 : X3 i 26 = X (i + 6) (13 * a + 6) := by
    rw [la.1.2.2.1, o1 _ (by omega)]
  refine ⟨fun c => ⟨?_, p3⟩, fun c => ⟨⟨fd, fr, pl, (mIn_t.mp c).2⟩, fun r13 rr X11 xr11 Y12 yr12 h13 => ?_⟩⟩
  · unfold rState
    rw [← e5, c5, if_pos rfl, c]
    rfl
  obtain ⟨f, oh, oc, h13⟩ := h13
  have h14 := h13 _ ci
  have er : r13 = ((rPl (hZ X i a b g) i d.toNat).1 : Int) := by
    rw [h14.1, ← q]
    rfl
  refine ⟨fun c6 => ⟨?_, p4 f⟩, fun c6 => ⟨?_, fun r16 rr16 h16 => ⟨?_, p4 f⟩⟩⟩
  · unfold rState
    rw [← e5, c5, if_pos rfl, c, ← er, decide_eq_false c6]
    rfl
  · have g5 := oc.1.1
    have g5 : 0 ≤ X11 i 43 ∧ X11 i 43 < (X3 i 27).toNat := g5
    have e27 : X11 i 27 = X3 i 27 := f.2.1 _ (by omega)
    exact ⟨oh, g5.1, by omega⟩
  · have e27 : X11 i 27 = X3 i 27 := f.2.1 _ (by omega)
    have r := h16 _ (by rw [e27]; exact h14.2) (by
      rw [rCx_t f]
      exact oWh_pl (x := rCx X3 i) (by show 0 < (X3 i 27).toNat; omega) (by show (X3 i 27).toNat ≤ 15; omega) _ _ _ (oWh_I (by show 0 < (X3 i 27).toNat; omega) (by show (X3 i 27).toNat ≤ 15; omega) sdf_0))
    have eL : rLd X11 i = rLd X3 i := by
      unfold rLd
      rw [rS_t (fK_t f)]
    rw [r, rCx_t f, eL, f.2.1 26 (by omega), e26, rCx_s z, rLd_s z]
    unfold rState
    rw [← e5, c5, if_pos rfl, c, ← er, decide_eq_true (Classical.not_not.mp c6), ← q]
    rw [Bool.and_true, if_pos rfl]
    unfold rPl
    rw [rCx_s z]
theorem c_X11_state {l : Launch} {D : va_G} {cy : Nat → ClassId} {bs N : Nat} {sa : Nat → Nat} {kd len : Nat → Nat} {X Y : Nat → Int → Int} {R : Nat → Int → Option Nat} {i : Nat} (hM : zM N kd len R i) (a : Int) (ha : rI a) (b : Int) (hb : rI b) (g : Int) (hg : rI g) (d : Int) (hd : rI d) (f : Int) (hf : rI f) (hp : oTN X i ∧ oTF X i) : Met l yX11_state (.code yX11_state cX11_state 6 (some .int) :: zTB) (zRm 7 163) (zPc D cy bs sa N kd len X Y R [.ref (bs + (i)), .int (zI (a)), .int (zI (b)), .int (zI (g)), .int (zI (d)), .int (zI (f))]) (zQi D cy bs N kd len (fun r st => st.2.2 = R ∧ (r = rState X i (a) (b) (g) (d) (f) ∧ pK X (st.1) i))) 0 0 (zA bs) := w_X11_state hM a ha b hb g hg d hd f hf (v_X11_state a ha b hb g hg d hd f hf hp)
