/-! BLOCKS ALONE -/
theorem ch_ok {X X1 X2 : Nat → Int → Int} {i : Nat} {c : Int} (hT : oTN X i) (e1 : X1 = zU X i 0 0) (e2 : X2 = zU (zU X1 i 25 c) i 27 (1 + X1 (i + 7) (183 * c))) (hc : 0 ≤ c ∧ c < X (i + 5) 1) :
    oB X2 i (X2 i 27 - 1) ∧ X2 i 27 = 1 + X (i + 7) (183 * c) ∧ (1 ≤ X2 i 27 ∧ X2 i 27 ≤ 15) ∧ rP X2 i = rP (hZ X i 0 c 0) i ∧ (∀ k, mTim X2 i k = mTim (hZ X i 0 c 0) i k) ∧ oT X2 i (X2 i 27 - 1) := by
  have h7 : X2 (i + 7) = X (i + 7) := by rw [e2, zU_o (by omega), zU_o (by omega), e1, zU_o (by omega)]
  have h25 : X2 i 25 = c := by rw [e2, zU_n (by omega), zU_s]
  have h27 : X2 i 27 = 1 + X (i + 7) (183 * c) := by rw [e2, zU_s, e1, zU_o (by omega)]
  have z7 : hZ X i 0 c 0 (i + 7) = X (i + 7) := hZ_o (by omega)
  have z25 : hZ X i 0 c 0 i 25 = c := hZ_s.2.1
  have eC : ∀ k w, mC X2 i k w = cE X i c k w := fun k w => by
    unfold mC cE
    rw [h7, h25]
  have eZ : ∀ k w, mC (hZ X i 0 c 0) i k w = cE X i c k w := fun k w => by
    unfold mC cE
    rw [z7, z25]
  have h5 := hT.1 1 (by decide) (by decide)
  obtain ⟨hn, hk⟩ := hT.2.2 c hc.1 hc.2
  refine ⟨⟨?_, by omega, fun k k1 k2 => ?_⟩, h27, ⟨by omega, by omega⟩, ?_, fun k => ?_, fun k k1 k2 => ?_⟩
  · show 0 ≤ X2 i 25 ∧ X2 i 25 ≤ 1
    rw [h25]
    exact ⟨by omega, by omega⟩
  · rw [eC]
    exact (hk k k1 (by omega)).1
  · unfold rP
    funext k
    rw [eC, eZ]
  · unfold mTim
    rw [eC, eZ]
  · rw [eC]
    exact (hk k k1 (by omega)).2.1
theorem ch_pK {X X1 X2 : Nat → Int → Int} {i : Nat} {c : Int} {r : Bool} (e1 : X1 = zU X i 0 0) (e2 : X2 = if r then zU (zU X1 i 25 c) i 27 (1 + X1 (i + 7) (183 * c)) else zU X1 i 25 c) : pK X X2 i := by
  subst e1
  subst e2
  cases r with
  | false => exact ⟨fun a h _ => by rw [if_neg (by decide), zU_o h, zU_o h], by rw [if_neg (by decide), zU_n (by omega), zU_s]⟩
  | true => exact ⟨fun a h _ => by rw [if_pos rfl, zU_o h, zU_o h, zU_o h], by rw [if_pos rfl, zU_n (by omega), zU_n (by omega), zU_s]⟩
abbrev qP (X : Nat → Int → Int) (i : Nat) (c : Int) : Nat → Nat := rP (hZ X i 0 c 0) i
abbrev qN (X : Nat → Int → Int) (i : Nat) (c : Int) : Int := X (i + 7) (183 * c)
def rMeet (X : Nat → Int → Int) (i : Nat) (c a b : Int) : Int := if mIs i X 1 c && (mIn a 0 (qN X i c) && mIn b 0 (qN X i c)) then mLst (zAnd (wyP (qP X i c) a.toNat) (wyP (qP X i c) b.toNat)) 15 else -1
def pBk (P : Nat → Nat) (a b : Int) : Int := mOnes (zAnd (wyP P a.toNat) (zXor (wyP P b.toNat) (-1)))
def rPath (X : Nat → Int → Int) (i : Nat) (c a b k : Int) : Int := if mIs i X 1 c && (mIn a 0 (qN X i c) && mIn b 0 (qN X i c)) then
  (if k = -1 then pBk (qP X i c) a b + pBk (qP X i c) b a else if mIn k 0 (pBk (qP X i c) a b + pBk (qP X i c) b a - 1) then (if k < pBk (qP X i c) a b then aN (qP X i c) a.toNat k.toNat else aN (qP X i c) b.toNat (pBk (qP X i c) a b + pBk (qP X i c) b a - 1 - k).toNat) else -1) else -1
def rSpeed (X : Nat → Int → Int) (i : Nat) (c a k : Int) : Int := if mIn k 1 9 && (mIs i X 1 c && mIn a 0 (qN X i c)) then (if aN (qP X i c) a.toNat k.toNat = -1 then -999 else mTim (hZ X i 0 c 0) i a - mTim (hZ X i 0 c 0) i (aN (qP X i c) a.toNat k.toNat)) else -999
abbrev cX11_meet : ByteArray := prog_13_method_99_code
def yX11_meet : MethodName := ⟨RX11, "meet", "(III)I"⟩
theorem dX11_meet_0 : decode cX11_meet 0 = .ok (.aload_n 0, 1) := by decide +kernel
theorem dX11_meet_1 : decode cX11_meet 1 = .ok (.iconst 0, 1) := by decide +kernel
theorem dX11_meet_2 : decode cX11_meet 2 = .ok (.putfield 88, 3) := by decide +kernel
theorem dX11_meet_5 : decode cX11_meet 5 = .ok (.aload_n 0, 1) := by decide +kernel
theorem dX11_meet_6 : decode cX11_meet 6 = .ok (.iload_n 1, 1) := by decide +kernel
theorem dX11_meet_7 : decode cX11_meet 7 = .ok (.invokevirtual 301, 3) := by decide +kernel
theorem dX11_meet_10 : decode cX11_meet 10 = .ok (.ifCond .eq 36, 3) := by decide +kernel
theorem dX11_meet_13 : decode cX11_meet 13 = .ok (.aload_n 0, 1) := by decide +kernel
theorem dX11_meet_14 : decode cX11_meet 14 = .ok (.iload_n 2, 1) := by decide +kernel
theorem dX11_meet_15 : decode cX11_meet 15 = .ok (.invokevirtual 319, 3) := by decide +kernel
theorem dX11_meet_18 : decode cX11_meet 18 = .ok (.ifCond .eq 28, 3) := by decide +kernel
theorem dX11_meet_21 : decode cX11_meet 21 = .ok (.aload_n 0, 1) := by decide +kernel
theorem dX11_meet_22 : decode cX11_meet 22 = .ok (.iload_n 3, 1) := by decide +kernel
theorem dX11_meet_23 : decode cX11_meet 23 = .ok (.invokevirtual 319, 3) := by decide +kernel
theorem dX11_meet_26 : decode cX11_meet 26 = .ok (.ifCond .eq 20, 3) := by decide +kernel
theorem dX11_meet_29 : decode cX11_meet 29 = .ok (.aload_n 0, 1) := by decide +kernel
theorem dX11_meet_30 : decode cX11_meet 30 = .ok (.iload_n 2, 1) := by decide +kernel
theorem dX11_meet_31 : decode cX11_meet 31 = .ok (.invokevirtual 382, 3) := by decide +kernel
theorem dX11_meet_34 : decode cX11_meet 34 = .ok (.aload_n 0, 1) := by decide +kernel
theorem dX11_meet_35 : decode cX11_meet 35 = .ok (.iload_n 3, 1) := by decide +kernel
theorem dX11_meet_36 : decode cX11_meet 36 = .ok (.invokevirtual 382, 3) := by decide +kernel
theorem dX11_meet_39 : decode cX11_meet 39 = .ok (.iand, 1) := by decide +kernel
theorem dX11_meet_40 : decode cX11_meet 40 = .ok (.invokestatic 476, 3) := by decide +kernel
theorem dX11_meet_43 : decode cX11_meet 43 = .ok (.goto 4, 3) := by decide +kernel
theorem dX11_meet_46 : decode cX11_meet 46 = .ok (.iconst (-1), 1) := by decide +kernel
theorem dX11_meet_47 : decode cX11_meet 47 = .ok (.ireturn, 1) := by decide +kernel
theorem q_1633 : Cond.methodLink RX11 319 yX11_isBlock ∈ zTB := zmem 1633 (by decide +kernel) rfl
theorem q_1635 : Cond.instanceMethod yX11_isBlock ∈ zTB := zmem 1635 (by decide +kernel) rfl
theorem q_59 : Cond.selects RX11 yX11_isBlock yX11_isBlock ∈ zTB := zmem 59 (by decide +kernel) rfl
theorem q_1636 : Cond.code yX11_isBlock cX11_isBlock 2 (some .boolean) ∈ zTB := zmem 1636 (by decide +kernel) rfl
theorem k_RX11_319 : zLv RX11 319 RX11 yX11_isBlock cX11_isBlock 2 (some .boolean) 1 := ⟨⟨q_1633, q_1635, q_59, q_140, q_1636⟩, rfl, ⟨by decide, by decide⟩, by decide +kernel⟩
theorem q_1872 : Cond.static yX11_lastIn ∈ zTB := zmem 1872 (by decide +kernel) rfl
theorem q_1873 : Cond.code yX11_lastIn cX11_lastIn 3 (some .int) ∈ zTB := zmem 1873 (by decide +kernel) rfl
theorem q_1871 : Cond.methodLink RX11 476 yX11_lastIn ∈ zTB := zmem 1871 (by decide +kernel) rfl
theorem k_RX11_476 : zLs RX11 476 yX11_lastIn cX11_lastIn 3 (some .int) 1 := ⟨⟨q_1871, q_1872, q_140, q_1873⟩, ⟨by decide, by decide⟩, by decide +kernel⟩
def F_X11_meet (i : Nat) (X Y : Nat → Int → Int) (R : Nat → Int → Option Nat) (a : Int) (b : Int) (g : Int) : Prop := (∀ i j, rI (X i j)) → (∀ i j, rL (Y i j)) → ∀ X1 : Nat → Int → Int, X1 = zU X (i) 0 (0) → (∀ i j, rI (X1 i j)) → ((oTN X1 i) ∧ (∀ r4 : Bool, ∀ X3 : Nat → Int → Int, (∀ i j, rI (X3 i j)) → (r4 = mIs i X1 1 (a) ∧ X3 = if r4 then zU (zU X1 i 25 (a)) i 27 (1 + X1 (i + 7) (183 * (a))) else zU X1 i 25 (a)) → (((r4 = false) → ((-1) = rMeet X i (a) (b) (g) ∧ pK X (X3) i)) ∧ ((r4 = true) → ((0 ≤ X3 i 27) ∧ ((((mIn (b) 0 (X3 i 27 - 1)) = false) → ((-1) = rMeet X i (a) (b) (g) ∧ pK X (X3) i)) ∧ (((mIn (b) 0 (X3 i 27 - 1)) = true) → ((0 ≤ X3 i 27) ∧ ((((mIn (g) 0 (X3 i 27 - 1)) = false) → ((-1) = rMeet X i (a) (b) (g) ∧ pK X (X3) i)) ∧ (((mIn (g) 0 (X3 i 27 - 1)) = true) → ((∃ n : Nat, oB X3 i n ∧ 0 ≤ b ∧ b ≤ n) ∧ (rI (rWy X3 i (b).toNat) → ((∃ n : Nat, oB X3 i n ∧ 0 ≤ g ∧ g ≤ n) ∧ (rI (rWy X3 i (g).toNat) → (rI (mLst (zAnd (rWy X3 i (b).toNat) (rWy X3 i (g).toNat)) 15) → (mLst (zAnd (rWy X3 i (b).toNat) (rWy X3 i (g).toNat)) 15 = rMeet X i (a) (b) (g) ∧ pK X (X3) i))))))))))))))))
set_option maxHeartbeats 4000000 in
set_option maxRecDepth 100000 in
theorem w_X11_meet {l : Launch} {D : va_G} {cy : Nat → ClassId} {bs N : Nat} {sa : Nat → Nat} {kd len : Nat → Nat} {X Y : Nat → Int → Int} {R : Nat → Int → Option Nat} {i : Nat} (hM : zM N kd len R i) (a : Int) (ha : rI a) (b : Int) (hb : rI b) (g : Int) (hg : rI g) (hF : F_X11_meet i X Y R a b g) : Met l yX11_meet (.code yX11_meet cX11_meet 4 (some .int) :: zTB) (zRm 3 66) (zPc D cy bs sa N kd len X Y R [.ref (bs + (i)), .int (zI (a)), .int (zI (b)), .int (zI (g))]) (zQi D cy bs N kd len (fun r st => st.2.1 = Y ∧ st.2.2 = R ∧ (r = rMeet X i (a) (b) (g) ∧ pK X (st.1) i))) 0 0 (zA bs) := by
  refine zstart (by decide) (Nat.le_of_ble_eq_true rfl) ?_
  intro p e s m args below meth c ls C hE hH hr hlk hnm hl hargs
  have hF := hF hH.2.2.1 hH.2.2.2
  have hS : va_S (zA bs) s.heap s.heap [] := va_S.rf
  have hl : lv_has ls 4 [(0, .ref (bs + (i))), (1, .int (zI (a))), (2, .int (zI (b))), (3, .int (zI (g)))] := hl
  refine lv_aload_n C.1 C.2.1 dX11_meet_0 rfl (lv_at hl 0 rfl) ?_
  refine zd_iconst C dX11_meet_1 ?_
  refine zp11_0 C hH hS (zM_n0 hM) (zM_k0 hM) q_1287 (by decide) dX11_meet_2 (fun H locs hH hS => ?_)
  obtain ⟨X1, eX1⟩ : ∃ z, z = zU X (i) 0 (0) := ⟨_, rfl⟩
  rw [← eX1] at hH
  have hF := hF X1 eX1 hH.2.2.1
  refine lv_aload_n C.1 C.2.1 dX11_meet_5 rfl (lv_at hl 0 rfl) ?_
  refine lv_iload_n C.1 C.2.1 dX11_meet_6 rfl (lv_at hl 1 rfl) ?_
  obtain ⟨o2, hF⟩ := hF
  refine zgoi (zrunV (As := [.int (zI (a))]) (rest := []) C hE hH hS hl.1 (c_X11_hasChain (l := l) hM (a) ha o2) k_RX11_301 ⟨Nat.le_of_ble_eq_true rfl, Nat.le_of_ble_eq_true rfl⟩ (zM_n0 hM) (zM_k0 hM) rfl rfl rfl (Nat.le_of_ble_eq_true rfl) dX11_meet_7 ⟨Nat.zero_le _, Nat.zero_le _⟩) hS (fun rq X3 Yq Rq H locs hrq hq hH hS => ?_)
  obtain ⟨h9Y, h9R, hq⟩ := hq
  dsimp only at h9Y h9R
  rw [h9Y, h9R] at hH
  obtain ⟨r4, h91, hq⟩ := hq
  subst h91
  have hF := hF r4 X3 hH.2.2.1 hq
  refine zd_ifB_eq C 46 dX11_meet_10 (by decide) (fun c5 => ?_) (fun c5 => ?_)
  · have hF := hF.1 c5
    refine zd_iconst C dX11_meet_46 ?_
    exact zd_iret C hr hlk hH hS (by decide) (⟨rfl, rfl, hF⟩) dX11_meet_47
  · have hF := hF.2 c5
    refine lv_aload_n C.1 C.2.1 dX11_meet_13 rfl (lv_at hl 0 rfl) ?_
    refine lv_iload_n C.1 C.2.1 dX11_meet_14 rfl (lv_at hl 2 rfl) ?_
    obtain ⟨o6, hF⟩ := hF
    refine zgoi (zrunV (As := [.int (zI (b))]) (rest := []) C hE hH hS hl.1 (c_X11_isBlock (l := l) hM (b) hb o6) k_RX11_319 ⟨Nat.le_of_ble_eq_true rfl, Nat.le_of_ble_eq_true rfl⟩ (zM_n0 hM) (zM_k0 hM) rfl rfl rfl (Nat.le_of_ble_eq_true rfl) dX11_meet_15 ⟨Nat.zero_le _, Nat.zero_le _⟩) hS (fun rq Xq Yq Rq H locs hrq hq hH hS => ?_)
    obtain ⟨h91, h92⟩ := hq
    have h93 : Xq = X3 := congrArg (fun z => z.1) h92
    have h94 : Yq = Y := congrArg (fun z => z.2.1) h92
    have h95 : Rq = R := congrArg (fun z => z.2.2) h92
    rw [h93, h94, h95] at hH
    subst h91
    refine zd_ifB_eq C 46 dX11_meet_18 (by decide) (fun c7 => ?_) (fun c7 => ?_)
    · have hF := hF.1 c7
      refine zd_iconst C dX11_meet_46 ?_
      exact zd_iret C hr hlk hH hS (by decide) (⟨rfl, rfl, hF⟩) dX11_meet_47
    · have hF := hF.2 c7
      refine lv_aload_n C.1 C.2.1 dX11_meet_21 rfl (lv_at hl 0 rfl) ?_
      refine lv_iload_n C.1 C.2.1 dX11_meet_22 rfl (lv_at hl 3 rfl) ?_
      obtain ⟨o8, hF⟩ := hF
      refine zgoi (zrunV (As := [.int (zI (g))]) (rest := []) C hE hH hS hl.1 (c_X11_isBlock (l := l) hM (g) hg o8) k_RX11_319 ⟨Nat.le_of_ble_eq_true rfl, Nat.le_of_ble_eq_true rfl⟩ (zM_n0 hM) (zM_k0 hM) rfl rfl rfl (Nat.le_of_ble_eq_true rfl) dX11_meet_23 ⟨Nat.zero_le _, Nat.zero_le _⟩) hS (fun rq Xq Yq Rq H locs hrq hq hH hS => ?_)
      obtain ⟨h91, h92⟩ := hq
      have h93 : Xq = X3 := congrArg (fun z => z.1) h92
      have h94 : Yq = Y := congrArg (fun z => z.2.1) h92
      have h95 : Rq = R := congrArg (fun z => z.2.2) h92
      rw [h93, h94, h95] at hH
      subst h91
      refine zd_ifB_eq C 46 dX11_meet_26 (by decide) (fun c9 => ?_) (fun c9 => ?_)
      · have hF := hF.1 c9
        refine zd_iconst C dX11_meet_46 ?_
        exact zd_iret C hr hlk hH hS (by decide) (⟨rfl, rfl, hF⟩) dX11_meet_47
      · have hF := hF.2 c9
        refine lv_aload_n C.1 C.2.1 dX11_meet_29 rfl (lv_at hl 0 rfl) ?_
        refine lv_iload_n C.1 C.2.1 dX11_meet_30 rfl (lv_at hl 2 rfl) ?_
        obtain ⟨o10, hF⟩ := hF
        refine zgoi (zrunV (As := [.int (zI (b))]) (rest := []) C hE hH hS hl.1 (c_X11_wayTo (l := l) hM (b) hb o10) k_RX11_382 ⟨Nat.le_of_ble_eq_true rfl, Nat.le_of_ble_eq_true rfl⟩ (zM_n0 hM) (zM_k0 hM) rfl rfl rfl (Nat.le_of_ble_eq_true rfl) dX11_meet_31 ⟨Nat.zero_le _, Nat.zero_le _⟩) hS (fun rq Xq Yq Rq H locs hrq hq hH hS => ?_)
        obtain ⟨h91, h92⟩ := hq
        have h93 : Xq = X3 := congrArg (fun z => z.1) h92
        have h94 : Yq = Y := congrArg (fun z => z.2.1) h92
        have h95 : Rq = R := congrArg (fun z => z.2.2) h92
        rw [h93, h94, h95] at hH
        subst h91
        have hr11 := hrq
        have hF := hF hr11
        refine lv_aload_n C.1 C.2.1 dX11_meet_34 rfl (lv_at hl 0 rfl) ?_
        refine lv_iload_n C.1 C.2.1 dX11_meet_35 rfl (lv_at hl 3 rfl) ?_
        obtain ⟨o12, hF⟩ := hF
        refine zgoi (zrunV (As := [.int (zI (g))]) (rest := [.int (zI (rWy X3 i (b).toNat))]) C hE hH hS hl.1 (c_X11_wayTo (l := l) hM (g) hg o12) k_RX11_382 ⟨Nat.le_of_ble_eq_true rfl, Nat.le_of_ble_eq_true rfl⟩ (zM_n0 hM) (zM_k0 hM) rfl rfl rfl (Nat.le_of_ble_eq_true rfl) dX11_meet_36 ⟨Nat.zero_le _, Nat.zero_le _⟩) hS (fun rq Xq Yq Rq H locs hrq hq hH hS => ?_)
        obtain ⟨h91, h92⟩ := hq
        have h93 : Xq = X3 := congrArg (fun z => z.1) h92
        have h94 : Yq = Y := congrArg (fun z => z.2.1) h92
        have h95 : Rq = R := congrArg (fun z => z.2.2) h92
        rw [h93, h94, h95] at hH
        subst h91
        have hr13 := hrq
        have hF := hF hr13
        refine zd_iand C dX11_meet_39 ?_
        refine zgoi (zrunS (As := [.int (zI (zAnd (rWy X3 i (b).toNat) (rWy X3 i (g).toNat)))]) (rest := []) C hE hH hS hl.1 (c_X11_lastIn (l := l)  (zAnd (rWy X3 i (b).toNat) (rWy X3 i (g).toNat)) (zI_rg _)) k_RX11_476 ⟨Nat.le_of_ble_eq_true rfl, Nat.le_of_ble_eq_true rfl⟩ rfl (Nat.le_of_ble_eq_true rfl) dX11_meet_40 ⟨Nat.zero_le _, Nat.zero_le _⟩) hS (fun rq Xq Yq Rq H locs hrq hq hH hS => ?_)
        obtain ⟨h91, h92⟩ := hq
        have h93 : Xq = X3 := congrArg (fun z => z.1) h92
        have h94 : Yq = Y := congrArg (fun z => z.2.1) h92
        have h95 : Rq = R := congrArg (fun z => z.2.2) h92
        rw [h93, h94, h95] at hH
        subst h91
        have hr14 := hrq
        have hF := hF hr14
        refine lv_goto (tgt := 47) C.1 C.2.1 dX11_meet_43 (by decide) ?_
        exact zd_iret C hr hlk hH hS hr14 (⟨rfl, rfl, hF⟩) dX11_meet_47
theorem v_X11_meet {X Y : Nat → Int → Int} {R : Nat → Int → Option Nat} {i : Nat} (a : Int) (ha : rI a) (b : Int) (hb : rI b) (g : Int) (hg : rI g) (hp : oTN X i) : F_X11_meet i X Y R a b g := by
  unfold F_X11_meet
  intro hX hY X1 e1 xr1
  have hT := hp
  have o1 : ∀ z, z ≠ i → X1 z = X z := fun z h => by rw [e1, zU_o h]
  have em : ∀ s k, mIs i X1 s k = mIs i X s k := fun s k => by
    unfold mIs
    rw [o1 _ (by omega)]
  refine ⟨oTN_k (o1 _ (by omega)) (o1 _ (by omega)) (o1 _ (by omega)) hT, fun r4 X3 xr3 h4 => ?_⟩
  obtain ⟨e4, e3⟩ := h4
  rw [em] at e4
  have p3 := ch_pK e1 e3
  refine ⟨fun c => ⟨by unfold rMeet; rw [← e4, c]; rfl, p3⟩, fun c => ?_⟩
  rw [c, if_pos rfl] at e3
  have hc := mIs_t.mp (e4.symm.trans c)
  rw [c] at e4
  obtain ⟨hB, h27, hb, eP, eT, hoT⟩ := ch_ok hT e1 e3 hc
  have hB2 : oB X3 i (((X3 i 27 - 1).toNat : Nat) : Int) := by
    rw [show (((X3 i 27 - 1).toNat : Nat) : Int) = X3 i 27 - 1 by omega]
    exact hB
  have wy : ∀ z, mIn z 0 (qN X i a) = true → ∃ n : Nat, oB X3 i n ∧ 0 ≤ z ∧ z ≤ n := fun z hz => by
    have h := mIn_t.mp hz
    have h2 : z ≤ X (i + 7) (183 * a) := h.2
    exact ⟨_, hB2, h.1, by omega⟩
  have ea : ∀ z, mIn z 0 (qN X i a) = true → ∀ m, mAh X3 i z m = aN (qP X i a) z.toNat m := fun z hz m => by
    have h := mIn_t.mp hz
    have h2 : z ≤ X (i + 7) (183 * a) := h.2
    have q := mAh_aN hB2 (k := z.toNat) (by omega) m
    rw [show ((z.toNat : Nat) : Int) = z by omega, eP] at q
    exact q
  have ew : ∀ k : Nat, rWy X3 i k = wyP (qP X i a) k := fun k => by
    show bS (onW (rP X3 i) k) 15 = bS (onW (rP (hZ X i 0 a 0) i) k) 15
    rw [eP]
  have en : X3 i 27 - 1 = qN X i a := by
    rw [h27]
    show 1 + X (i + 7) (183 * a) - 1 = X (i + 7) (183 * a)
    omega
  have h0 : 0 ≤ X3 i 27 := by omega
  rw [en]
  rw [ew, ew]
  refine ⟨h0, fun c1 => ⟨?_, p3⟩, fun c1 => ⟨h0, fun c2 => ⟨?_, p3⟩, fun c2 => ⟨wy b c1, fun _ => ⟨wy g c2, fun _ _ => ⟨?_, p3⟩⟩⟩⟩⟩
  · unfold rMeet
    rw [← e4, c1]
    rfl
  · unfold rMeet
    rw [← e4, c1, c2]
    rfl
  · unfold rMeet
    rw [← e4, c1, c2]
    rfl
theorem c_X11_meet {l : Launch} {D : va_G} {cy : Nat → ClassId} {bs N : Nat} {sa : Nat → Nat} {kd len : Nat → Nat} {X Y : Nat → Int → Int} {R : Nat → Int → Option Nat} {i : Nat} (hM : zM N kd len R i) (a : Int) (ha : rI a) (b : Int) (hb : rI b) (g : Int) (hg : rI g) (hp : oTN X i) : Met l yX11_meet (.code yX11_meet cX11_meet 4 (some .int) :: zTB) (zRm 3 66) (zPc D cy bs sa N kd len X Y R [.ref (bs + (i)), .int (zI (a)), .int (zI (b)), .int (zI (g))]) (zQi D cy bs N kd len (fun r st => st.2.1 = Y ∧ st.2.2 = R ∧ (r = rMeet X i (a) (b) (g) ∧ pK X (st.1) i))) 0 0 (zA bs) := w_X11_meet hM a ha b hb g hg (v_X11_meet a ha b hb g hg hp)
abbrev cX11_path : ByteArray := prog_13_method_93_code
def yX11_path : MethodName := ⟨RX11, "path", "(IIII)I"⟩
theorem dX11_path_0 : decode cX11_path 0 = .ok (.aload_n 0, 1) := by decide +kernel
theorem dX11_path_1 : decode cX11_path 1 = .ok (.iconst 0, 1) := by decide +kernel
theorem dX11_path_2 : decode cX11_path 2 = .ok (.putfield 88, 3) := by decide +kernel
theorem dX11_path_5 : decode cX11_path 5 = .ok (.aload_n 0, 1) := by decide +kernel
theorem dX11_path_6 : decode cX11_path 6 = .ok (.iload_n 1, 1) := by decide +kernel
theorem dX11_path_7 : decode cX11_path 7 = .ok (.invokevirtual 301, 3) := by decide +kernel
theorem dX11_path_10 : decode cX11_path 10 = .ok (.ifCond .eq 19, 3) := by decide +kernel
theorem dX11_path_13 : decode cX11_path 13 = .ok (.aload_n 0, 1) := by decide +kernel
theorem dX11_path_14 : decode cX11_path 14 = .ok (.iload_n 2, 1) := by decide +kernel
theorem dX11_path_15 : decode cX11_path 15 = .ok (.invokevirtual 319, 3) := by decide +kernel
theorem dX11_path_18 : decode cX11_path 18 = .ok (.ifCond .eq 11, 3) := by decide +kernel
theorem dX11_path_21 : decode cX11_path 21 = .ok (.aload_n 0, 1) := by decide +kernel
theorem dX11_path_22 : decode cX11_path 22 = .ok (.iload_n 3, 1) := by decide +kernel
theorem dX11_path_23 : decode cX11_path 23 = .ok (.invokevirtual 319, 3) := by decide +kernel
theorem dX11_path_26 : decode cX11_path 26 = .ok (.ifCond .ne 5, 3) := by decide +kernel
theorem dX11_path_29 : decode cX11_path 29 = .ok (.iconst (-1), 1) := by decide +kernel
theorem dX11_path_30 : decode cX11_path 30 = .ok (.ireturn, 1) := by decide +kernel
theorem dX11_path_31 : decode cX11_path 31 = .ok (.aload_n 0, 1) := by decide +kernel
theorem dX11_path_32 : decode cX11_path 32 = .ok (.iload_n 2, 1) := by decide +kernel
theorem dX11_path_33 : decode cX11_path 33 = .ok (.invokevirtual 382, 3) := by decide +kernel
theorem dX11_path_36 : decode cX11_path 36 = .ok (.aload_n 0, 1) := by decide +kernel
theorem dX11_path_37 : decode cX11_path 37 = .ok (.iload_n 3, 1) := by decide +kernel
theorem dX11_path_38 : decode cX11_path 38 = .ok (.invokevirtual 382, 3) := by decide +kernel
theorem dX11_path_41 : decode cX11_path 41 = .ok (.iconst (-1), 1) := by decide +kernel
theorem dX11_path_42 : decode cX11_path 42 = .ok (.ixor, 1) := by decide +kernel
theorem dX11_path_43 : decode cX11_path 43 = .ok (.iand, 1) := by decide +kernel
theorem dX11_path_44 : decode cX11_path 44 = .ok (.istore 5, 2) := by decide +kernel
theorem dX11_path_46 : decode cX11_path 46 = .ok (.aload_n 0, 1) := by decide +kernel
theorem dX11_path_47 : decode cX11_path 47 = .ok (.iload_n 3, 1) := by decide +kernel
theorem dX11_path_48 : decode cX11_path 48 = .ok (.invokevirtual 382, 3) := by decide +kernel
theorem dX11_path_51 : decode cX11_path 51 = .ok (.aload_n 0, 1) := by decide +kernel
theorem dX11_path_52 : decode cX11_path 52 = .ok (.iload_n 2, 1) := by decide +kernel
theorem dX11_path_53 : decode cX11_path 53 = .ok (.invokevirtual 382, 3) := by decide +kernel
theorem dX11_path_56 : decode cX11_path 56 = .ok (.iconst (-1), 1) := by decide +kernel
theorem dX11_path_57 : decode cX11_path 57 = .ok (.ixor, 1) := by decide +kernel
theorem dX11_path_58 : decode cX11_path 58 = .ok (.iand, 1) := by decide +kernel
theorem dX11_path_59 : decode cX11_path 59 = .ok (.istore 6, 2) := by decide +kernel
theorem dX11_path_61 : decode cX11_path 61 = .ok (.iload 5, 2) := by decide +kernel
theorem dX11_path_63 : decode cX11_path 63 = .ok (.invokestatic 385, 3) := by decide +kernel
theorem dX11_path_66 : decode cX11_path 66 = .ok (.iload 6, 2) := by decide +kernel
theorem dX11_path_68 : decode cX11_path 68 = .ok (.invokestatic 385, 3) := by decide +kernel
theorem dX11_path_71 : decode cX11_path 71 = .ok (.iadd, 1) := by decide +kernel
theorem dX11_path_72 : decode cX11_path 72 = .ok (.istore 7, 2) := by decide +kernel
theorem dX11_path_74 : decode cX11_path 74 = .ok (.iload 4, 2) := by decide +kernel
theorem dX11_path_76 : decode cX11_path 76 = .ok (.iconst (-1), 1) := by decide +kernel
theorem dX11_path_77 : decode cX11_path 77 = .ok (.if_icmp .eq 16, 3) := by decide +kernel
theorem dX11_path_80 : decode cX11_path 80 = .ok (.iload 4, 2) := by decide +kernel
theorem dX11_path_82 : decode cX11_path 82 = .ok (.iconst 0, 1) := by decide +kernel
theorem dX11_path_83 : decode cX11_path 83 = .ok (.iload 7, 2) := by decide +kernel
theorem dX11_path_85 : decode cX11_path 85 = .ok (.iconst 1, 1) := by decide +kernel
theorem dX11_path_86 : decode cX11_path 86 = .ok (.isub, 1) := by decide +kernel
theorem dX11_path_87 : decode cX11_path 87 = .ok (.invokestatic 100, 3) := by decide +kernel
theorem dX11_path_90 : decode cX11_path 90 = .ok (.ifCond .ne 16, 3) := by decide +kernel
theorem dX11_path_93 : decode cX11_path 93 = .ok (.iload 4, 2) := by decide +kernel
theorem dX11_path_95 : decode cX11_path 95 = .ok (.iconst (-1), 1) := by decide +kernel
theorem dX11_path_96 : decode cX11_path 96 = .ok (.if_icmp .ne 8, 3) := by decide +kernel
theorem dX11_path_99 : decode cX11_path 99 = .ok (.iload 7, 2) := by decide +kernel
theorem dX11_path_101 : decode cX11_path 101 = .ok (.goto 4, 3) := by decide +kernel
theorem dX11_path_104 : decode cX11_path 104 = .ok (.iconst (-1), 1) := by decide +kernel
theorem dX11_path_105 : decode cX11_path 105 = .ok (.ireturn, 1) := by decide +kernel
theorem dX11_path_106 : decode cX11_path 106 = .ok (.iload 4, 2) := by decide +kernel
theorem dX11_path_108 : decode cX11_path 108 = .ok (.iload 5, 2) := by decide +kernel
theorem dX11_path_110 : decode cX11_path 110 = .ok (.invokestatic 385, 3) := by decide +kernel
theorem dX11_path_113 : decode cX11_path 113 = .ok (.if_icmp .ge 13, 3) := by decide +kernel
theorem dX11_path_116 : decode cX11_path 116 = .ok (.aload_n 0, 1) := by decide +kernel
theorem dX11_path_117 : decode cX11_path 117 = .ok (.iload_n 2, 1) := by decide +kernel
theorem dX11_path_118 : decode cX11_path 118 = .ok (.iload 4, 2) := by decide +kernel
theorem dX11_path_120 : decode cX11_path 120 = .ok (.invokevirtual 274, 3) := by decide +kernel
theorem dX11_path_123 : decode cX11_path 123 = .ok (.goto 15, 3) := by decide +kernel
theorem dX11_path_126 : decode cX11_path 126 = .ok (.aload_n 0, 1) := by decide +kernel
theorem dX11_path_127 : decode cX11_path 127 = .ok (.iload_n 3, 1) := by decide +kernel
theorem dX11_path_128 : decode cX11_path 128 = .ok (.iload 7, 2) := by decide +kernel
theorem dX11_path_130 : decode cX11_path 130 = .ok (.iconst 1, 1) := by decide +kernel
theorem dX11_path_131 : decode cX11_path 131 = .ok (.isub, 1) := by decide +kernel
theorem dX11_path_132 : decode cX11_path 132 = .ok (.iload 4, 2) := by decide +kernel
theorem dX11_path_134 : decode cX11_path 134 = .ok (.isub, 1) := by decide +kernel
theorem dX11_path_135 : decode cX11_path 135 = .ok (.invokevirtual 274, 3) := by decide +kernel
theorem dX11_path_138 : decode cX11_path 138 = .ok (.ireturn, 1) := by decide +kernel
def F_X11_path (i : Nat) (X Y : Nat → Int → Int) (R : Nat → Int → Option Nat) (a : Int) (b : Int) (g : Int) (d : Int) : Prop := (∀ i j, rI (X i j)) → (∀ i j, rL (Y i j)) → ∀ X1 : Nat → Int → Int, X1 = zU X (i) 0 (0) → (∀ i j, rI (X1 i j)) → ((oTN X1 i) ∧ (∀ r4 : Bool, ∀ X3 : Nat → Int → Int, (∀ i j, rI (X3 i j)) → (r4 = mIs i X1 1 (a) ∧ X3 = if r4 then zU (zU X1 i 25 (a)) i 27 (1 + X1 (i + 7) (183 * (a))) else zU X1 i 25 (a)) → (((r4 = false) → ((-1) = rPath X i (a) (b) (g) (d) ∧ pK X (X3) i)) ∧ ((r4 = true) → ((0 ≤ X3 i 27) ∧ ((((mIn (b) 0 (X3 i 27 - 1)) = false) → ((-1) = rPath X i (a) (b) (g) (d) ∧ pK X (X3) i)) ∧ (((mIn (b) 0 (X3 i 27 - 1)) = true) → ((0 ≤ X3 i 27) ∧ ((((mIn (g) 0 (X3 i 27 - 1)) = true) → ((∃ n : Nat, oB X3 i n ∧ 0 ≤ b ∧ b ≤ n) ∧ (rI (rWy X3 i (b).toNat) → ((∃ n : Nat, oB X3 i n ∧ 0 ≤ g ∧ g ≤ n) ∧ (rI (rWy X3 i (g).toNat) → ((∃ n : Nat, oB X3 i n ∧ 0 ≤ g ∧ g ≤ n) ∧ (rI (rWy X3 i (g).toNat) → ((∃ n : Nat, oB X3 i n ∧ 0 ≤ b ∧ b ≤ n) ∧ (rI (rWy X3 i (b).toNat) → (rI (mOnes (zAnd (rWy X3 i (b).toNat) (zXor (rWy X3 i (g).toNat) ((-1))))) → (rI (mOnes (zAnd (rWy X3 i (g).toNat) (zXor (rWy X3 i (b).toNat) ((-1))))) → (((d = (-1)) → (((¬ d = (-1)) → ((-1) = rPath X i (a) (b) (g) (d) ∧ pK X (X3) i)) ∧ ((¬ (¬ d = (-1))) → ((rI ((mOnes (zAnd (rWy X3 i (b).toNat) (zXor (rWy X3 i (g).toNat) ((-1))))) + (mOnes (zAnd (rWy X3 i (g).toNat) (zXor (rWy X3 i (b).toNat) ((-1))))))) ∧ ((mOnes (zAnd (rWy X3 i (b).toNat) (zXor (rWy X3 i (g).toNat) ((-1))))) + (mOnes (zAnd (rWy X3 i (g).toNat) (zXor (rWy X3 i (b).toNat) ((-1))))) = rPath X i (a) (b) (g) (d) ∧ pK X (X3) i))))) ∧ ((¬ (d = (-1))) → ((rI (((mOnes (zAnd (rWy X3 i (b).toNat) (zXor (rWy X3 i (g).toNat) ((-1))))) + (mOnes (zAnd (rWy X3 i (g).toNat) (zXor (rWy X3 i (b).toNat) ((-1)))))) - 1)) ∧ ((((mIn (d) ((0 : Int)) (((mOnes (zAnd (rWy X3 i (b).toNat) (zXor (rWy X3 i (g).toNat) ((-1))))) + (mOnes (zAnd (rWy X3 i (g).toNat) (zXor (rWy X3 i (b).toNat) ((-1)))))) - 1)) = true) → (rI (mOnes (zAnd (rWy X3 i (b).toNat) (zXor (rWy X3 i (g).toNat) ((-1))))) → ((((mOnes (zAnd (rWy X3 i (b).toNat) (zXor (rWy X3 i (g).toNat) ((-1))))) ≤ d) → ((rI ((((mOnes (zAnd (rWy X3 i (b).toNat) (zXor (rWy X3 i (g).toNat) ((-1))))) + (mOnes (zAnd (rWy X3 i (g).toNat) (zXor (rWy X3 i (b).toNat) ((-1)))))) - 1) - d)) ∧ (((∃ m, oB X3 i m ∧ g ≤ m) ∧ 0 ≤ g) ∧ (rI (mAh X3 i (g) ((((mOnes (zAnd (rWy X3 i (b).toNat) (zXor (rWy X3 i (g).toNat) ((-1))))) + (mOnes (zAnd (rWy X3 i (g).toNat) (zXor (rWy X3 i (b).toNat) ((-1)))))) - 1) - d).toNat) → (mAh X3 i (g) ((((mOnes (zAnd (rWy X3 i (b).toNat) (zXor (rWy X3 i (g).toNat) ((-1))))) + (mOnes (zAnd (rWy X3 i (g).toNat) (zXor (rWy X3 i (b).toNat) ((-1)))))) - 1) - d).toNat = rPath X i (a) (b) (g) (d) ∧ pK X (X3) i))))) ∧ ((¬ ((mOnes (zAnd (rWy X3 i (b).toNat) (zXor (rWy X3 i (g).toNat) ((-1))))) ≤ d)) → (((∃ m, oB X3 i m ∧ b ≤ m) ∧ 0 ≤ b) ∧ (rI (mAh X3 i (b) (d).toNat) → (mAh X3 i (b) (d).toNat = rPath X i (a) (b) (g) (d) ∧ pK X (X3) i))))))) ∧ (((mIn (d) ((0 : Int)) (((mOnes (zAnd (rWy X3 i (b).toNat) (zXor (rWy X3 i (g).toNat) ((-1))))) + (mOnes (zAnd (rWy X3 i (g).toNat) (zXor (rWy X3 i (b).toNat) ((-1)))))) - 1)) = false) → (((¬ d = (-1)) → ((-1) = rPath X i (a) (b) (g) (d) ∧ pK X (X3) i)) ∧ ((¬ (¬ d = (-1))) → ((rI ((mOnes (zAnd (rWy X3 i (b).toNat) (zXor (rWy X3 i (g).toNat) ((-1))))) + (mOnes (zAnd (rWy X3 i (g).toNat) (zXor (rWy X3 i (b).toNat) ((-1))))))) ∧ ((mOnes (zAnd (rWy X3 i (b).toNat) (zXor (rWy X3 i (g).toNat) ((-1))))) + (mOnes (zAnd (rWy X3 i (g).toNat) (zXor (rWy X3 i (b).toNat) ((-1))))) = rPath X i (a) (b) (g) (d) ∧ pK X (X3) i)))))))))))))))))))) ∧ (((mIn (g) 0 (X3 i 27 - 1)) = false) → ((-1) = rPath X i (a) (b) (g) (d) ∧ pK X (X3) i)))))))))))
set_option maxHeartbeats 4000000 in
set_option maxRecDepth 100000 in
theorem w_X11_path {l : Launch} {D : va_G} {cy : Nat → ClassId} {bs N : Nat} {sa : Nat → Nat} {kd len : Nat → Nat} {X Y : Nat → Int → Int} {R : Nat → Int → Option Nat} {i : Nat} (hM : zM N kd len R i) (a : Int) (ha : rI a) (b : Int) (hb : rI b) (g : Int) (hg : rI g) (d : Int) (hd : rI d) (hF : F_X11_path i X Y R a b g d) : Met l yX11_path (.code yX11_path cX11_path 8 (some .int) :: zTB) (zRm 3 67) (zPc D cy bs sa N kd len X Y R [.ref (bs + (i)), .int (zI (a)), .int (zI (b)), .int (zI (g)), .int (zI (d))]) (zQi D cy bs N kd len (fun r st => st.2.1 = Y ∧ st.2.2 = R ∧ (r = rPath X i (a) (b) (g) (d) ∧ pK X (st.1) i))) 0 0 (zA bs) := by
  refine zstart (by decide) (Nat.le_of_ble_eq_true rfl) ?_
  intro p e s m args below meth c ls C hE hH hr hlk hnm hl hargs
  have hF := hF hH.2.2.1 hH.2.2.2
  have hS : va_S (zA bs) s.heap s.heap [] := va_S.rf
  have hl : lv_has ls 8 [(0, .ref (bs + (i))), (1, .int (zI (a))), (2, .int (zI (b))), (3, .int (zI (g))), (4, .int (zI (d)))] := hl
  refine lv_aload_n C.1 C.2.1 dX11_path_0 rfl (lv_at hl 0 rfl) ?_
  refine zd_iconst C dX11_path_1 ?_
  refine zp11_0 C hH hS (zM_n0 hM) (zM_k0 hM) q_1287 (by decide) dX11_path_2 (fun H locs hH hS => ?_)
  obtain ⟨X1, eX1⟩ : ∃ z, z = zU X (i) 0 (0) := ⟨_, rfl⟩
  rw [← eX1] at hH
  have hF := hF X1 eX1 hH.2.2.1
  refine lv_aload_n C.1 C.2.1 dX11_path_5 rfl (lv_at hl 0 rfl) ?_
  refine lv_iload_n C.1 C.2.1 dX11_path_6 rfl (lv_at hl 1 rfl) ?_
  obtain ⟨o2, hF⟩ := hF
  refine zgoi (zrunV (As := [.int (zI (a))]) (rest := []) C hE hH hS hl.1 (c_X11_hasChain (l := l) hM (a) ha o2) k_RX11_301 ⟨Nat.le_of_ble_eq_true rfl, Nat.le_of_ble_eq_true rfl⟩ (zM_n0 hM) (zM_k0 hM) rfl rfl rfl (Nat.le_of_ble_eq_true rfl) dX11_path_7 ⟨Nat.zero_le _, Nat.zero_le _⟩) hS (fun rq X3 Yq Rq H locs hrq hq hH hS => ?_)
  obtain ⟨h9Y, h9R, hq⟩ := hq
  dsimp only at h9Y h9R
  rw [h9Y, h9R] at hH
  obtain ⟨r4, h91, hq⟩ := hq
  subst h91
  have hF := hF r4 X3 hH.2.2.1 hq
  refine zd_ifB_eq C 29 dX11_path_10 (by decide) (fun c5 => ?_) (fun c5 => ?_)
  · have hF := hF.1 c5
    refine zd_iconst C dX11_path_29 ?_
    exact zd_iret C hr hlk hH hS (by decide) (⟨rfl, rfl, hF⟩) dX11_path_30
  · have hF := hF.2 c5
    refine lv_aload_n C.1 C.2.1 dX11_path_13 rfl (lv_at hl 0 rfl) ?_
    refine lv_iload_n C.1 C.2.1 dX11_path_14 rfl (lv_at hl 2 rfl) ?_
    obtain ⟨o6, hF⟩ := hF
    refine zgoi (zrunV (As := [.int (zI (b))]) (rest := []) C hE hH hS hl.1 (c_X11_isBlock (l := l) hM (b) hb o6) k_RX11_319 ⟨Nat.le_of_ble_eq_true rfl, Nat.le_of_ble_eq_true rfl⟩ (zM_n0 hM) (zM_k0 hM) rfl rfl rfl (Nat.le_of_ble_eq_true rfl) dX11_path_15 ⟨Nat.zero_le _, Nat.zero_le _⟩) hS (fun rq Xq Yq Rq H locs hrq hq hH hS => ?_)
    obtain ⟨h91, h92⟩ := hq
    have h93 : Xq = X3 := congrArg (fun z => z.1) h92
    have h94 : Yq = Y := congrArg (fun z => z.2.1) h92
    have h95 : Rq = R := congrArg (fun z => z.2.2) h92
    rw [h93, h94, h95] at hH
    subst h91
    refine zd_ifB_eq C 29 dX11_path_18 (by decide) (fun c7 => ?_) (fun c7 => ?_)
    · have hF := hF.1 c7
      refine zd_iconst C dX11_path_29 ?_
      exact zd_iret C hr hlk hH hS (by decide) (⟨rfl, rfl, hF⟩) dX11_path_30
    · have hF := hF.2 c7
      refine lv_aload_n C.1 C.2.1 dX11_path_21 rfl (lv_at hl 0 rfl) ?_
      refine lv_iload_n C.1 C.2.1 dX11_path_22 rfl (lv_at hl 3 rfl) ?_
      obtain ⟨o8, hF⟩ := hF
      refine zgoi (zrunV (As := [.int (zI (g))]) (rest := []) C hE hH hS hl.1 (c_X11_isBlock (l := l) hM (g) hg o8) k_RX11_319 ⟨Nat.le_of_ble_eq_true rfl, Nat.le_of_ble_eq_true rfl⟩ (zM_n0 hM) (zM_k0 hM) rfl rfl rfl (Nat.le_of_ble_eq_true rfl) dX11_path_23 ⟨Nat.zero_le _, Nat.zero_le _⟩) hS (fun rq Xq Yq Rq H locs hrq hq hH hS => ?_)
      obtain ⟨h91, h92⟩ := hq
      have h93 : Xq = X3 := congrArg (fun z => z.1) h92
      have h94 : Yq = Y := congrArg (fun z => z.2.1) h92
      have h95 : Rq = R := congrArg (fun z => z.2.2) h92
      rw [h93, h94, h95] at hH
      subst h91
      refine zd_ifB_ne C 31 dX11_path_26 (by decide) (fun c9 => ?_) (fun c9 => ?_)
      · have hF := hF.1 c9
        refine lv_aload_n C.1 C.2.1 dX11_path_31 rfl (lv_at hl 0 rfl) ?_
        refine lv_iload_n C.1 C.2.1 dX11_path_32 rfl (lv_at hl 2 rfl) ?_
        obtain ⟨o10, hF⟩ := hF
        refine zgoi (zrunV (As := [.int (zI (b))]) (rest := []) C hE hH hS hl.1 (c_X11_wayTo (l := l) hM (b) hb o10) k_RX11_382 ⟨Nat.le_of_ble_eq_true rfl, Nat.le_of_ble_eq_true rfl⟩ (zM_n0 hM) (zM_k0 hM) rfl rfl rfl (Nat.le_of_ble_eq_true rfl) dX11_path_33 ⟨Nat.zero_le _, Nat.zero_le _⟩) hS (fun rq Xq Yq Rq H locs hrq hq hH hS => ?_)
        obtain ⟨h91, h92⟩ := hq
        have h93 : Xq = X3 := congrArg (fun z => z.1) h92
        have h94 : Yq = Y := congrArg (fun z => z.2.1) h92
        have h95 : Rq = R := congrArg (fun z => z.2.2) h92
        rw [h93, h94, h95] at hH
        subst h91
        have hr11 := hrq
        have hF := hF hr11
        refine lv_aload_n C.1 C.2.1 dX11_path_36 rfl (lv_at hl 0 rfl) ?_
        refine lv_iload_n C.1 C.2.1 dX11_path_37 rfl (lv_at hl 3 rfl) ?_
        obtain ⟨o12, hF⟩ := hF
        refine zgoi (zrunV (As := [.int (zI (g))]) (rest := [.int (zI (rWy X3 i (b).toNat))]) C hE hH hS hl.1 (c_X11_wayTo (l := l) hM (g) hg o12) k_RX11_382 ⟨Nat.le_of_ble_eq_true rfl, Nat.le_of_ble_eq_true rfl⟩ (zM_n0 hM) (zM_k0 hM) rfl rfl rfl (Nat.le_of_ble_eq_true rfl) dX11_path_38 ⟨Nat.zero_le _, Nat.zero_le _⟩) hS (fun rq Xq Yq Rq H locs hrq hq hH hS => ?_)
        obtain ⟨h91, h92⟩ := hq
        have h93 : Xq = X3 := congrArg (fun z => z.1) h92
        have h94 : Yq = Y := congrArg (fun z => z.2.1) h92
        have h95 : Rq = R := congrArg (fun z => z.2.2) h92
        rw [h93, h94, h95] at hH
        subst h91
        have hr13 := hrq
        have hF := hF hr13
        refine zd_iconst C dX11_path_41 ?_
        refine zd_ixor C dX11_path_42 ?_
        refine zd_iand C dX11_path_43 ?_
        refine lv_istore (lv' := [(5, .int (zI (zAnd (rWy X3 i (b).toNat) (zXor (rWy X3 i (g).toNat) ((-1)))))), (0, .ref (bs + (i))), (1, .int (zI (a))), (2, .int (zI (b))), (3, .int (zI (g))), (4, .int (zI (d)))]) C.1 C.2.1 dX11_path_44 hl (by decide) rfl (fun ls hl => ?_)
        refine lv_aload_n C.1 C.2.1 dX11_path_46 rfl (lv_at hl 1 rfl) ?_
        refine lv_iload_n C.1 C.2.1 dX11_path_47 rfl (lv_at hl 4 rfl) ?_
        obtain ⟨o14, hF⟩ := hF
        refine zgoi (zrunV (As := [.int (zI (g))]) (rest := []) C hE hH hS hl.1 (c_X11_wayTo (l := l) hM (g) hg o14) k_RX11_382 ⟨Nat.le_of_ble_eq_true rfl, Nat.le_of_ble_eq_true rfl⟩ (zM_n0 hM) (zM_k0 hM) rfl rfl rfl (Nat.le_of_ble_eq_true rfl) dX11_path_48 ⟨Nat.zero_le _, Nat.zero_le _⟩) hS (fun rq Xq Yq Rq H locs hrq hq hH hS => ?_)
        obtain ⟨h91, h92⟩ := hq
        have h93 : Xq = X3 := congrArg (fun z => z.1) h92
        have h94 : Yq = Y := congrArg (fun z => z.2.1) h92
        have h95 : Rq = R := congrArg (fun z => z.2.2) h92
        rw [h93, h94, h95] at hH
        subst h91
        have hr15 := hrq
        have hF := hF hr15
        refine lv_aload_n C.1 C.2.1 dX11_path_51 rfl (lv_at hl 1 rfl) ?_
        refine lv_iload_n C.1 C.2.1 dX11_path_52 rfl (lv_at hl 3 rfl) ?_
        obtain ⟨o16, hF⟩ := hF
        refine zgoi (zrunV (As := [.int (zI (b))]) (rest := [.int (zI (rWy X3 i (g).toNat))]) C hE hH hS hl.1 (c_X11_wayTo (l := l) hM (b) hb o16) k_RX11_382 ⟨Nat.le_of_ble_eq_true rfl, Nat.le_of_ble_eq_true rfl⟩ (zM_n0 hM) (zM_k0 hM) rfl rfl rfl (Nat.le_of_ble_eq_true rfl) dX11_path_53 ⟨Nat.zero_le _, Nat.zero_le _⟩) hS (fun rq Xq Yq Rq H locs hrq hq hH hS => ?_)
        obtain ⟨h91, h92⟩ := hq
        have h93 : Xq = X3 := congrArg (fun z => z.1) h92
        have h94 : Yq = Y := congrArg (fun z => z.2.1) h92
        have h95 : Rq = R := congrArg (fun z => z.2.2) h92
        rw [h93, h94, h95] at hH
        subst h91
        have hr17 := hrq
        have hF := hF hr17
        refine zd_iconst C dX11_path_56 ?_
        refine zd_ixor C dX11_path_57 ?_
        refine zd_iand C dX11_path_58 ?_
        refine lv_istore (lv' := [(6, .int (zI (zAnd (rWy X3 i (g).toNat) (zXor (rWy X3 i (b).toNat) ((-1)))))), (5, .int (zI (zAnd (rWy X3 i (b).toNat) (zXor (rWy X3 i (g).toNat) ((-1)))))), (0, .ref (bs + (i))), (1, .int (zI (a))), (2, .int (zI (b))), (3, .int (zI (g))), (4, .int (zI (d)))]) C.1 C.2.1 dX11_path_59 hl (by decide) rfl (fun ls hl => ?_)
        refine lv_iload C.1 C.2.1 dX11_path_61 (lv_at hl 1 rfl) ?_
        refine zgoi (zrunS (As := [.int (zI (zAnd (rWy X3 i (b).toNat) (zXor (rWy X3 i (g).toNat) ((-1)))))]) (rest := []) C hE hH hS hl.1 (c_X11_ones (l := l)  (zAnd (rWy X3 i (b).toNat) (zXor (rWy X3 i (g).toNat) ((-1)))) (zI_rg _)) k_RX11_385 ⟨Nat.le_of_ble_eq_true rfl, Nat.le_of_ble_eq_true rfl⟩ rfl (Nat.le_of_ble_eq_true rfl) dX11_path_63 ⟨Nat.zero_le _, Nat.zero_le _⟩) hS (fun rq Xq Yq Rq H locs hrq hq hH hS => ?_)
        obtain ⟨h91, h92⟩ := hq
        have h93 : Xq = X3 := congrArg (fun z => z.1) h92
        have h94 : Yq = Y := congrArg (fun z => z.2.1) h92
        have h95 : Rq = R := congrArg (fun z => z.2.2) h92
        rw [h93, h94, h95] at hH
        subst h91
        have hr18 := hrq
        have hF := hF hr18
        refine lv_iload C.1 C.2.1 dX11_path_66 (lv_at hl 0 rfl) ?_
        refine zgoi (zrunS (As := [.int (zI (zAnd (rWy X3 i (g).toNat) (zXor (rWy X3 i (b).toNat) ((-1)))))]) (rest := [.int (zI (mOnes (zAnd (rWy X3 i (b).toNat) (zXor (rWy X3 i (g).toNat) ((-1))))))]) C hE hH hS hl.1 (c_X11_ones (l := l)  (zAnd (rWy X3 i (g).toNat) (zXor (rWy X3 i (b).toNat) ((-1)))) (zI_rg _)) k_RX11_385 ⟨Nat.le_of_ble_eq_true rfl, Nat.le_of_ble_eq_true rfl⟩ rfl (Nat.le_of_ble_eq_true rfl) dX11_path_68 ⟨Nat.zero_le _, Nat.zero_le _⟩) hS (fun rq Xq Yq Rq H locs hrq hq hH hS => ?_)
        obtain ⟨h91, h92⟩ := hq
        have h93 : Xq = X3 := congrArg (fun z => z.1) h92
        have h94 : Yq = Y := congrArg (fun z => z.2.1) h92
        have h95 : Rq = R := congrArg (fun z => z.2.2) h92
        rw [h93, h94, h95] at hH
        subst h91
        have hr19 := hrq
        have hF := hF hr19
        refine zd_iadd C dX11_path_71 ?_
        refine lv_istore (lv' := [(7, .int (zI ((mOnes (zAnd (rWy X3 i (b).toNat) (zXor (rWy X3 i (g).toNat) ((-1))))) + (mOnes (zAnd (rWy X3 i (g).toNat) (zXor (rWy X3 i (b).toNat) ((-1)))))))), (6, .int (zI (zAnd (rWy X3 i (g).toNat) (zXor (rWy X3 i (b).toNat) ((-1)))))), (5, .int (zI (zAnd (rWy X3 i (b).toNat) (zXor (rWy X3 i (g).toNat) ((-1)))))), (0, .ref (bs + (i))), (1, .int (zI (a))), (2, .int (zI (b))), (3, .int (zI (g))), (4, .int (zI (d)))]) C.1 C.2.1 dX11_path_72 hl (by decide) rfl (fun ls hl => ?_)
        refine lv_iload C.1 C.2.1 dX11_path_74 (lv_at hl 7 rfl) ?_
        refine zd_iconst C dX11_path_76 ?_
        refine zd_icmp_eq C hd (by decide) 93 dX11_path_77 (by decide) (fun c20 => ?_) (fun c20 => ?_)
        · have hF := hF.1 c20
          refine lv_iload C.1 C.2.1 dX11_path_93 (lv_at hl 7 rfl) ?_
          refine zd_iconst C dX11_path_95 ?_
          refine zd_icmp_ne C hd (by decide) 104 dX11_path_96 (by decide) (fun c21 => ?_) (fun c21 => ?_)
          · have hF := hF.1 c21
            refine zd_iconst C dX11_path_104 ?_
            exact zd_iret C hr hlk hH hS (by decide) (⟨rfl, rfl, hF⟩) dX11_path_105
          · have hF := hF.2 c21
            refine lv_iload C.1 C.2.1 dX11_path_99 (lv_at hl 0 rfl) ?_
            refine lv_goto (tgt := 105) C.1 C.2.1 dX11_path_101 (by decide) ?_
            obtain ⟨o22, hF⟩ := hF
            exact zd_iret C hr hlk hH hS o22 (⟨rfl, rfl, hF⟩) dX11_path_105
        · have hF := hF.2 c20
          refine lv_iload C.1 C.2.1 dX11_path_80 (lv_at hl 7 rfl) ?_
          refine zd_iconst C dX11_path_82 ?_
          refine lv_iload C.1 C.2.1 dX11_path_83 (lv_at hl 0 rfl) ?_
          refine zd_iconst C dX11_path_85 ?_
          refine zd_isub C dX11_path_86 ?_
          obtain ⟨o23, hF⟩ := hF
          refine zgoi (zrunS (As := [.int (zI (d)), .int (zI (0)), .int (zI (((mOnes (zAnd (rWy X3 i (b).toNat) (zXor (rWy X3 i (g).toNat) ((-1))))) + (mOnes (zAnd (rWy X3 i (g).toNat) (zXor (rWy X3 i (b).toNat) ((-1)))))) - 1))]) (rest := []) C hE hH hS hl.1 (c_X11_in (l := l)  (d) hd (0) (by decide) (((mOnes (zAnd (rWy X3 i (b).toNat) (zXor (rWy X3 i (g).toNat) ((-1))))) + (mOnes (zAnd (rWy X3 i (g).toNat) (zXor (rWy X3 i (b).toNat) ((-1)))))) - 1) o23) k_RX11_100 ⟨Nat.le_of_ble_eq_true rfl, Nat.le_of_ble_eq_true rfl⟩ rfl (Nat.le_of_ble_eq_true rfl) dX11_path_87 ⟨Nat.zero_le _, Nat.zero_le _⟩) hS (fun rq Xq Yq Rq H locs hrq hq hH hS => ?_)
          obtain ⟨h91, h92⟩ := hq
          have h93 : Xq = X3 := congrArg (fun z => z.1) h92
          have h94 : Yq = Y := congrArg (fun z => z.2.1) h92
          have h95 : Rq = R := congrArg (fun z => z.2.2) h92
          rw [h93, h94, h95] at hH
          subst h91
          refine zd_ifB_ne C 106 dX11_path_90 (by decide) (fun c24 => ?_) (fun c24 => ?_)
          · have hF := hF.1 c24
            refine lv_iload C.1 C.2.1 dX11_path_106 (lv_at hl 7 rfl) ?_
            refine lv_iload C.1 C.2.1 dX11_path_108 (lv_at hl 2 rfl) ?_
            refine zgoi (zrunS (As := [.int (zI (zAnd (rWy X3 i (b).toNat) (zXor (rWy X3 i (g).toNat) ((-1)))))]) (rest := [.int (zI (d))]) C hE hH hS hl.1 (c_X11_ones (l := l)  (zAnd (rWy X3 i (b).toNat) (zXor (rWy X3 i (g).toNat) ((-1)))) (zI_rg _)) k_RX11_385 ⟨Nat.le_of_ble_eq_true rfl, Nat.le_of_ble_eq_true rfl⟩ rfl (Nat.le_of_ble_eq_true rfl) dX11_path_110 ⟨Nat.zero_le _, Nat.zero_le _⟩) hS (fun rq Xq Yq Rq H locs hrq hq hH hS => ?_)
            obtain ⟨h91, h92⟩ := hq
            have h93 : Xq = X3 := congrArg (fun z => z.1) h92
            have h94 : Yq = Y := congrArg (fun z => z.2.1) h92
            have h95 : Rq = R := congrArg (fun z => z.2.2) h92
            rw [h93, h94, h95] at hH
            subst h91
            have hr25 := hrq
            have hF := hF hr25
            refine zd_icmp_ge C hd hr25 126 dX11_path_113 (by decide) (fun c26 => ?_) (fun c26 => ?_)
            · have hF := hF.1 c26
              refine lv_aload_n C.1 C.2.1 dX11_path_126 rfl (lv_at hl 3 rfl) ?_
              refine lv_iload_n C.1 C.2.1 dX11_path_127 rfl (lv_at hl 6 rfl) ?_
              refine lv_iload C.1 C.2.1 dX11_path_128 (lv_at hl 0 rfl) ?_
              refine zd_iconst C dX11_path_130 ?_
              refine zd_isub C dX11_path_131 ?_
              refine lv_iload C.1 C.2.1 dX11_path_132 (lv_at hl 7 rfl) ?_
              refine zd_isub C dX11_path_134 ?_
              obtain ⟨o27, hF⟩ := hF
              obtain ⟨o28, hF⟩ := hF
              refine zgoi (zrunV (As := [.int (zI (g)), .int (zI ((((mOnes (zAnd (rWy X3 i (b).toNat) (zXor (rWy X3 i (g).toNat) ((-1))))) + (mOnes (zAnd (rWy X3 i (g).toNat) (zXor (rWy X3 i (b).toNat) ((-1)))))) - 1) - d))]) (rest := []) C hE hH hS hl.1 (c_X11_aheadOf (l := l) hM (g) hg ((((mOnes (zAnd (rWy X3 i (b).toNat) (zXor (rWy X3 i (g).toNat) ((-1))))) + (mOnes (zAnd (rWy X3 i (g).toNat) (zXor (rWy X3 i (b).toNat) ((-1)))))) - 1) - d) o27 o28) k_RX11_274 ⟨Nat.le_of_ble_eq_true rfl, Nat.le_of_ble_eq_true rfl⟩ (zM_n0 hM) (zM_k0 hM) rfl rfl rfl (Nat.le_of_ble_eq_true rfl) dX11_path_135 ⟨Nat.zero_le _, Nat.zero_le _⟩) hS (fun rq Xq Yq Rq H locs hrq hq hH hS => ?_)
              obtain ⟨h91, h92⟩ := hq
              have h93 : Xq = X3 := congrArg (fun z => z.1) h92
              have h94 : Yq = Y := congrArg (fun z => z.2.1) h92
              have h95 : Rq = R := congrArg (fun z => z.2.2) h92
              rw [h93, h94, h95] at hH
              subst h91
              have hr29 := hrq
              have hF := hF hr29
              exact zd_iret C hr hlk hH hS hr29 (⟨rfl, rfl, hF⟩) dX11_path_138
            · have hF := hF.2 c26
              refine lv_aload_n C.1 C.2.1 dX11_path_116 rfl (lv_at hl 3 rfl) ?_
              refine lv_iload_n C.1 C.2.1 dX11_path_117 rfl (lv_at hl 5 rfl) ?_
              refine lv_iload C.1 C.2.1 dX11_path_118 (lv_at hl 7 rfl) ?_
              obtain ⟨o30, hF⟩ := hF
              refine zgoi (zrunV (As := [.int (zI (b)), .int (zI (d))]) (rest := []) C hE hH hS hl.1 (c_X11_aheadOf (l := l) hM (b) hb (d) hd o30) k_RX11_274 ⟨Nat.le_of_ble_eq_true rfl, Nat.le_of_ble_eq_true rfl⟩ (zM_n0 hM) (zM_k0 hM) rfl rfl rfl (Nat.le_of_ble_eq_true rfl) dX11_path_120 ⟨Nat.zero_le _, Nat.zero_le _⟩) hS (fun rq Xq Yq Rq H locs hrq hq hH hS => ?_)
              obtain ⟨h91, h92⟩ := hq
              have h93 : Xq = X3 := congrArg (fun z => z.1) h92
              have h94 : Yq = Y := congrArg (fun z => z.2.1) h92
              have h95 : Rq = R := congrArg (fun z => z.2.2) h92
              rw [h93, h94, h95] at hH
              subst h91
              have hr31 := hrq
              have hF := hF hr31
              refine lv_goto (tgt := 138) C.1 C.2.1 dX11_path_123 (by decide) ?_
              exact zd_iret C hr hlk hH hS hr31 (⟨rfl, rfl, hF⟩) dX11_path_138
          · have hF := hF.2 c24
            refine lv_iload C.1 C.2.1 dX11_path_93 (lv_at hl 7 rfl) ?_
            refine zd_iconst C dX11_path_95 ?_
            refine zd_icmp_ne C hd (by decide) 104 dX11_path_96 (by decide) (fun c32 => ?_) (fun c32 => ?_)
            · have hF := hF.1 c32
              refine zd_iconst C dX11_path_104 ?_
              exact zd_iret C hr hlk hH hS (by decide) (⟨rfl, rfl, hF⟩) dX11_path_105
            · have hF := hF.2 c32
              refine lv_iload C.1 C.2.1 dX11_path_99 (lv_at hl 0 rfl) ?_
              refine lv_goto (tgt := 105) C.1 C.2.1 dX11_path_101 (by decide) ?_
              obtain ⟨o33, hF⟩ := hF
              exact zd_iret C hr hlk hH hS o33 (⟨rfl, rfl, hF⟩) dX11_path_105
      · have hF := hF.2 c9
        refine zd_iconst C dX11_path_29 ?_
        exact zd_iret C hr hlk hH hS (by decide) (⟨rfl, rfl, hF⟩) dX11_path_30
theorem v_X11_path {X Y : Nat → Int → Int} {R : Nat → Int → Option Nat} {i : Nat} (a : Int) (ha : rI a) (b : Int) (hb : rI b) (g : Int) (hg : rI g) (d : Int) (hd : rI d) (hp : oTN X i) : F_X11_path i X Y R a b g d := by
  unfold F_X11_path
  intro hX hY X1 e1 xr1
  have hT := hp
  have o1 : ∀ z, z ≠ i → X1 z = X z := fun z h => by rw [e1, zU_o h]
  have em : ∀ s k, mIs i X1 s k = mIs i X s k := fun s k => by
    unfold mIs
    rw [o1 _ (by omega)]
  refine ⟨oTN_k (o1 _ (by omega)) (o1 _ (by omega)) (o1 _ (by omega)) hT, fun r4 X3 xr3 h4 => ?_⟩
  obtain ⟨e4, e3⟩ := h4
  rw [em] at e4
  have p3 := ch_pK e1 e3
  refine ⟨fun c => ⟨by unfold rPath; rw [← e4, c]; rfl, p3⟩, fun c => ?_⟩
  rw [c, if_pos rfl] at e3
  have hc := mIs_t.mp (e4.symm.trans c)
  rw [c] at e4
  obtain ⟨hB, h27, hb, eP, eT, hoT⟩ := ch_ok hT e1 e3 hc
  have hB2 : oB X3 i (((X3 i 27 - 1).toNat : Nat) : Int) := by
    rw [show (((X3 i 27 - 1).toNat : Nat) : Int) = X3 i 27 - 1 by omega]
    exact hB
  have wy : ∀ z, mIn z 0 (qN X i a) = true → ∃ n : Nat, oB X3 i n ∧ 0 ≤ z ∧ z ≤ n := fun z hz => by
    have h := mIn_t.mp hz
    have h2 : z ≤ X (i + 7) (183 * a) := h.2
    exact ⟨_, hB2, h.1, by omega⟩
  have ea : ∀ z, mIn z 0 (qN X i a) = true → ∀ m, mAh X3 i z m = aN (qP X i a) z.toNat m := fun z hz m => by
    have h := mIn_t.mp hz
    have h2 : z ≤ X (i + 7) (183 * a) := h.2
    have q := mAh_aN hB2 (k := z.toNat) (by omega) m
    rw [show ((z.toNat : Nat) : Int) = z by omega, eP] at q
    exact q
  have ew : ∀ k : Nat, rWy X3 i k = wyP (qP X i a) k := fun k => by
    show bS (onW (rP X3 i) k) 15 = bS (onW (rP (hZ X i 0 a 0) i) k) 15
    rw [eP]
  have en : X3 i 27 - 1 = qN X i a := by
    rw [h27]
    show 1 + X (i + 7) (183 * a) - 1 = X (i + 7) (183 * a)
    omega
  have h0 : 0 ≤ X3 i 27 := by omega
  rw [en]
  rw [ew, ew]
  refine ⟨h0, fun c1 => ⟨by unfold rPath; rw [← e4, c1]; rfl, p3⟩, fun c1 => ⟨h0, fun c2 => ⟨wy b c1, fun _ => ⟨wy g c2, fun _ => ⟨wy g c2, fun _ => ⟨wy b c1, fun _ _ _ => ?_⟩⟩⟩⟩, fun c2 => ⟨by unfold rPath; rw [← e4, c1, c2]; rfl, p3⟩⟩⟩
  have u : ∀ y, y = (if d = -1 then pBk (qP X i a) b g + pBk (qP X i a) g b else if mIn d 0 (pBk (qP X i a) b g + pBk (qP X i a) g b - 1) then (if d < pBk (qP X i a) b g then aN (qP X i a) b.toNat d.toNat else aN (qP X i a) g.toNat (pBk (qP X i a) b g + pBk (qP X i a) g b - 1 - d).toNat) else -1) → y = rPath X i a b g d ∧ pK X X3 i := fun y hy => by
    refine ⟨?_, p3⟩
    unfold rPath
    rw [← e4, c1, c2]
    exact hy
  have b1 : 0 ≤ pBk (qP X i a) b g ∧ pBk (qP X i a) b g ≤ 15 := mOnes_b _
  have b2 : 0 ≤ pBk (qP X i a) g b ∧ pBk (qP X i a) g b ≤ 15 := mOnes_b _
  have f1 : mOnes (zAnd (wyP (qP X i a) b.toNat) (zXor (wyP (qP X i a) g.toNat) (-1))) = pBk (qP X i a) b g := rfl
  have f2 : mOnes (zAnd (wyP (qP X i a) g.toNat) (zXor (wyP (qP X i a) b.toNat) (-1))) = pBk (qP X i a) g b := rfl
  rw [f1, f2]
  refine ⟨fun d1 => ⟨fun d2 => absurd d1 d2, fun _ => ⟨⟨by omega, by omega⟩, u _ (by rw [if_pos d1])⟩⟩, fun d1 => ⟨⟨by omega, by omega⟩, fun d2 => fun _ => ⟨fun d3 => ⟨?_, ⟨?_, fun _ => u _ ?_⟩⟩, fun d3 => ⟨?_, fun _ => u _ ?_⟩⟩, fun d2 => ⟨fun _ => u _ (by rw [if_neg d1, d2]; rfl), fun q => absurd d1 q⟩⟩⟩
  · have := mIn_t.mp d2
    exact ⟨by omega, by omega⟩
  · obtain ⟨n, g1, g2, g3⟩ := wy g c2
    exact ⟨⟨n, g1, g3⟩, g2⟩
  · rw [if_neg d1, d2, if_pos rfl, if_neg (by omega), ea g c2]
  · obtain ⟨n, g1, g2, g3⟩ := wy b c1
    exact ⟨⟨n, g1, g3⟩, g2⟩
  · rw [if_neg d1, d2, if_pos rfl, if_pos (by omega), ea b c1]
theorem c_X11_path {l : Launch} {D : va_G} {cy : Nat → ClassId} {bs N : Nat} {sa : Nat → Nat} {kd len : Nat → Nat} {X Y : Nat → Int → Int} {R : Nat → Int → Option Nat} {i : Nat} (hM : zM N kd len R i) (a : Int) (ha : rI a) (b : Int) (hb : rI b) (g : Int) (hg : rI g) (d : Int) (hd : rI d) (hp : oTN X i) : Met l yX11_path (.code yX11_path cX11_path 8 (some .int) :: zTB) (zRm 3 67) (zPc D cy bs sa N kd len X Y R [.ref (bs + (i)), .int (zI (a)), .int (zI (b)), .int (zI (g)), .int (zI (d))]) (zQi D cy bs N kd len (fun r st => st.2.1 = Y ∧ st.2.2 = R ∧ (r = rPath X i (a) (b) (g) (d) ∧ pK X (st.1) i))) 0 0 (zA bs) := w_X11_path hM a ha b hb g hg d hd (v_X11_path a ha b hb g hg d hd hp)
abbrev cX11_speed : ByteArray := prog_13_method_133_code
def yX11_speed : MethodName := ⟨RX11, "speed", "(III)I"⟩
theorem dX11_speed_0 : decode cX11_speed 0 = .ok (.aload_n 0, 1) := by decide +kernel
theorem dX11_speed_1 : decode cX11_speed 1 = .ok (.iconst 0, 1) := by decide +kernel
theorem dX11_speed_2 : decode cX11_speed 2 = .ok (.putfield 88, 3) := by decide +kernel
theorem dX11_speed_5 : decode cX11_speed 5 = .ok (.iload_n 3, 1) := by decide +kernel
theorem dX11_speed_6 : decode cX11_speed 6 = .ok (.iconst 1, 1) := by decide +kernel
theorem dX11_speed_7 : decode cX11_speed 7 = .ok (.bipush 9, 2) := by decide +kernel
theorem dX11_speed_9 : decode cX11_speed 9 = .ok (.invokestatic 100, 3) := by decide +kernel
theorem dX11_speed_12 : decode cX11_speed 12 = .ok (.ifCond .eq 19, 3) := by decide +kernel
theorem dX11_speed_15 : decode cX11_speed 15 = .ok (.aload_n 0, 1) := by decide +kernel
theorem dX11_speed_16 : decode cX11_speed 16 = .ok (.iload_n 1, 1) := by decide +kernel
theorem dX11_speed_17 : decode cX11_speed 17 = .ok (.invokevirtual 301, 3) := by decide +kernel
theorem dX11_speed_20 : decode cX11_speed 20 = .ok (.ifCond .eq 11, 3) := by decide +kernel
theorem dX11_speed_23 : decode cX11_speed 23 = .ok (.aload_n 0, 1) := by decide +kernel
theorem dX11_speed_24 : decode cX11_speed 24 = .ok (.iload_n 2, 1) := by decide +kernel
theorem dX11_speed_25 : decode cX11_speed 25 = .ok (.invokevirtual 319, 3) := by decide +kernel
theorem dX11_speed_28 : decode cX11_speed 28 = .ok (.ifCond .ne 7, 3) := by decide +kernel
theorem dX11_speed_31 : decode cX11_speed 31 = .ok (.sipush (-999), 3) := by decide +kernel
theorem dX11_speed_34 : decode cX11_speed 34 = .ok (.ireturn, 1) := by decide +kernel
theorem dX11_speed_35 : decode cX11_speed 35 = .ok (.aload_n 0, 1) := by decide +kernel
theorem dX11_speed_36 : decode cX11_speed 36 = .ok (.iload_n 2, 1) := by decide +kernel
theorem dX11_speed_37 : decode cX11_speed 37 = .ok (.iload_n 3, 1) := by decide +kernel
theorem dX11_speed_38 : decode cX11_speed 38 = .ok (.invokevirtual 274, 3) := by decide +kernel
theorem dX11_speed_41 : decode cX11_speed 41 = .ok (.istore 4, 2) := by decide +kernel
theorem dX11_speed_43 : decode cX11_speed 43 = .ok (.iload 4, 2) := by decide +kernel
theorem dX11_speed_45 : decode cX11_speed 45 = .ok (.iconst (-1), 1) := by decide +kernel
theorem dX11_speed_46 : decode cX11_speed 46 = .ok (.if_icmp .ne 9, 3) := by decide +kernel
theorem dX11_speed_49 : decode cX11_speed 49 = .ok (.sipush (-999), 3) := by decide +kernel
theorem dX11_speed_52 : decode cX11_speed 52 = .ok (.goto 15, 3) := by decide +kernel
theorem dX11_speed_55 : decode cX11_speed 55 = .ok (.aload_n 0, 1) := by decide +kernel
theorem dX11_speed_56 : decode cX11_speed 56 = .ok (.iload_n 2, 1) := by decide +kernel
theorem dX11_speed_57 : decode cX11_speed 57 = .ok (.invokevirtual 271, 3) := by decide +kernel
theorem dX11_speed_60 : decode cX11_speed 60 = .ok (.aload_n 0, 1) := by decide +kernel
theorem dX11_speed_61 : decode cX11_speed 61 = .ok (.iload 4, 2) := by decide +kernel
theorem dX11_speed_63 : decode cX11_speed 63 = .ok (.invokevirtual 271, 3) := by decide +kernel
theorem dX11_speed_66 : decode cX11_speed 66 = .ok (.isub, 1) := by decide +kernel
theorem dX11_speed_67 : decode cX11_speed 67 = .ok (.ireturn, 1) := by decide +kernel
def F_X11_speed (i : Nat) (X Y : Nat → Int → Int) (R : Nat → Int → Option Nat) (a : Int) (b : Int) (g : Int) : Prop := (∀ i j, rI (X i j)) → (∀ i j, rL (Y i j)) → ∀ X1 : Nat → Int → Int, X1 = zU X (i) 0 (0) → (∀ i j, rI (X1 i j)) → ((((mIn (g) ((1 : Int)) ((9 : Int))) = false) → ((-999) = rSpeed X i (a) (b) (g) ∧ pK X (X1) i)) ∧ (((mIn (g) ((1 : Int)) ((9 : Int))) = true) → ((oTN X1 i) ∧ (∀ r5 : Bool, ∀ X4 : Nat → Int → Int, (∀ i j, rI (X4 i j)) → (r5 = mIs i X1 1 (a) ∧ X4 = if r5 then zU (zU X1 i 25 (a)) i 27 (1 + X1 (i + 7) (183 * (a))) else zU X1 i 25 (a)) → (((r5 = false) → ((-999) = rSpeed X i (a) (b) (g) ∧ pK X (X4) i)) ∧ ((r5 = true) → ((0 ≤ X4 i 27) ∧ ((((mIn (b) 0 (X4 i 27 - 1)) = true) → (((∃ m, oB X4 i m ∧ b ≤ m) ∧ 0 ≤ b) ∧ (rI (mAh X4 i (b) (g).toNat) → (((¬ (mAh X4 i (b) (g).toNat) = (-1)) → ((oC X4 i ∧ 0 ≤ b ∧ b ≤ 14) ∧ (rI (mTim X4 i (b)) → ((oC X4 i ∧ 0 ≤ mAh X4 i (b) (g).toNat ∧ mAh X4 i (b) (g).toNat ≤ 14) ∧ (rI (mTim X4 i (mAh X4 i (b) (g).toNat)) → ((rI ((mTim X4 i (b)) - (mTim X4 i (mAh X4 i (b) (g).toNat)))) ∧ ((mTim X4 i (b)) - (mTim X4 i (mAh X4 i (b) (g).toNat)) = rSpeed X i (a) (b) (g) ∧ pK X (X4) i))))))) ∧ ((¬ (¬ (mAh X4 i (b) (g).toNat) = (-1))) → ((-999) = rSpeed X i (a) (b) (g) ∧ pK X (X4) i)))))) ∧ (((mIn (b) 0 (X4 i 27 - 1)) = false) → ((-999) = rSpeed X i (a) (b) (g) ∧ pK X (X4) i))))))))))
set_option maxHeartbeats 4000000 in
set_option maxRecDepth 100000 in
theorem w_X11_speed {l : Launch} {D : va_G} {cy : Nat → ClassId} {bs N : Nat} {sa : Nat → Nat} {kd len : Nat → Nat} {X Y : Nat → Int → Int} {R : Nat → Int → Option Nat} {i : Nat} (hM : zM N kd len R i) (a : Int) (ha : rI a) (b : Int) (hb : rI b) (g : Int) (hg : rI g) (hF : F_X11_speed i X Y R a b g) : Met l yX11_speed (.code yX11_speed cX11_speed 5 (some .int) :: zTB) (zRm 3 67) (zPc D cy bs sa N kd len X Y R [.ref (bs + (i)), .int (zI (a)), .int (zI (b)), .int (zI (g))]) (zQi D cy bs N kd len (fun r st => st.2.1 = Y ∧ st.2.2 = R ∧ (r = rSpeed X i (a) (b) (g) ∧ pK X (st.1) i))) 0 0 (zA bs) := by
  refine zstart (by decide) (Nat.le_of_ble_eq_true rfl) ?_
  intro p e s m args below meth c ls C hE hH hr hlk hnm hl hargs
  have hF := hF hH.2.2.1 hH.2.2.2
  have hS : va_S (zA bs) s.heap s.heap [] := va_S.rf
  have hl : lv_has ls 5 [(0, .ref (bs + (i))), (1, .int (zI (a))), (2, .int (zI (b))), (3, .int (zI (g)))] := hl
  refine lv_aload_n C.1 C.2.1 dX11_speed_0 rfl (lv_at hl 0 rfl) ?_
  refine zd_iconst C dX11_speed_1 ?_
  refine zp11_0 C hH hS (zM_n0 hM) (zM_k0 hM) q_1287 (by decide) dX11_speed_2 (fun H locs hH hS => ?_)
  obtain ⟨X1, eX1⟩ : ∃ z, z = zU X (i) 0 (0) := ⟨_, rfl⟩
  rw [← eX1] at hH
  have hF := hF X1 eX1 hH.2.2.1
  refine lv_iload_n C.1 C.2.1 dX11_speed_5 rfl (lv_at hl 3 rfl) ?_
  refine zd_iconst C dX11_speed_6 ?_
  refine zd_bipush C (by decide) dX11_speed_7 ?_
  refine zgoi (zrunS (As := [.int (zI (g)), .int (zI (1)), .int (zI (9))]) (rest := []) C hE hH hS hl.1 (c_X11_in (l := l)  (g) hg (1) (by decide) (9) (by decide)) k_RX11_100 ⟨Nat.le_of_ble_eq_true rfl, Nat.le_of_ble_eq_true rfl⟩ rfl (Nat.le_of_ble_eq_true rfl) dX11_speed_9 ⟨Nat.zero_le _, Nat.zero_le _⟩) hS (fun rq Xq Yq Rq H locs hrq hq hH hS => ?_)
  obtain ⟨h91, h92⟩ := hq
  have h93 : Xq = X1 := congrArg (fun z => z.1) h92
  have h94 : Yq = Y := congrArg (fun z => z.2.1) h92
  have h95 : Rq = R := congrArg (fun z => z.2.2) h92
  rw [h93, h94, h95] at hH
  subst h91
  refine zd_ifB_eq C 31 dX11_speed_12 (by decide) (fun c2 => ?_) (fun c2 => ?_)
  · have hF := hF.1 c2
    refine zd_sipush C (by decide) dX11_speed_31 ?_
    exact zd_iret C hr hlk hH hS (by decide) (⟨rfl, rfl, hF⟩) dX11_speed_34
  · have hF := hF.2 c2
    refine lv_aload_n C.1 C.2.1 dX11_speed_15 rfl (lv_at hl 0 rfl) ?_
    refine lv_iload_n C.1 C.2.1 dX11_speed_16 rfl (lv_at hl 1 rfl) ?_
    obtain ⟨o3, hF⟩ := hF
    refine zgoi (zrunV (As := [.int (zI (a))]) (rest := []) C hE hH hS hl.1 (c_X11_hasChain (l := l) hM (a) ha o3) k_RX11_301 ⟨Nat.le_of_ble_eq_true rfl, Nat.le_of_ble_eq_true rfl⟩ (zM_n0 hM) (zM_k0 hM) rfl rfl rfl (Nat.le_of_ble_eq_true rfl) dX11_speed_17 ⟨Nat.zero_le _, Nat.zero_le _⟩) hS (fun rq X4 Yq Rq H locs hrq hq hH hS => ?_)
    obtain ⟨h9Y, h9R, hq⟩ := hq
    dsimp only at h9Y h9R
    rw [h9Y, h9R] at hH
    obtain ⟨r5, h91, hq⟩ := hq
    subst h91
    have hF := hF r5 X4 hH.2.2.1 hq
    refine zd_ifB_eq C 31 dX11_speed_20 (by decide) (fun c6 => ?_) (fun c6 => ?_)
    · have hF := hF.1 c6
      refine zd_sipush C (by decide) dX11_speed_31 ?_
      exact zd_iret C hr hlk hH hS (by decide) (⟨rfl, rfl, hF⟩) dX11_speed_34
    · have hF := hF.2 c6
      refine lv_aload_n C.1 C.2.1 dX11_speed_23 rfl (lv_at hl 0 rfl) ?_
      refine lv_iload_n C.1 C.2.1 dX11_speed_24 rfl (lv_at hl 2 rfl) ?_
      obtain ⟨o7, hF⟩ := hF
      refine zgoi (zrunV (As := [.int (zI (b))]) (rest := []) C hE hH hS hl.1 (c_X11_isBlock (l := l) hM (b) hb o7) k_RX11_319 ⟨Nat.le_of_ble_eq_true rfl, Nat.le_of_ble_eq_true rfl⟩ (zM_n0 hM) (zM_k0 hM) rfl rfl rfl (Nat.le_of_ble_eq_true rfl) dX11_speed_25 ⟨Nat.zero_le _, Nat.zero_le _⟩) hS (fun rq Xq Yq Rq H locs hrq hq hH hS => ?_)
      obtain ⟨h91, h92⟩ := hq
      have h93 : Xq = X4 := congrArg (fun z => z.1) h92
      have h94 : Yq = Y := congrArg (fun z => z.2.1) h92
      have h95 : Rq = R := congrArg (fun z => z.2.2) h92
      rw [h93, h94, h95] at hH
      subst h91
      refine zd_ifB_ne C 35 dX11_speed_28 (by decide) (fun c8 => ?_) (fun c8 => ?_)
      · have hF := hF.1 c8
        refine lv_aload_n C.1 C.2.1 dX11_speed_35 rfl (lv_at hl 0 rfl) ?_
        refine lv_iload_n C.1 C.2.1 dX11_speed_36 rfl (lv_at hl 2 rfl) ?_
        refine lv_iload_n C.1 C.2.1 dX11_speed_37 rfl (lv_at hl 3 rfl) ?_
        obtain ⟨o9, hF⟩ := hF
        refine zgoi (zrunV (As := [.int (zI (b)), .int (zI (g))]) (rest := []) C hE hH hS hl.1 (c_X11_aheadOf (l := l) hM (b) hb (g) hg o9) k_RX11_274 ⟨Nat.le_of_ble_eq_true rfl, Nat.le_of_ble_eq_true rfl⟩ (zM_n0 hM) (zM_k0 hM) rfl rfl rfl (Nat.le_of_ble_eq_true rfl) dX11_speed_38 ⟨Nat.zero_le _, Nat.zero_le _⟩) hS (fun rq Xq Yq Rq H locs hrq hq hH hS => ?_)
        obtain ⟨h91, h92⟩ := hq
        have h93 : Xq = X4 := congrArg (fun z => z.1) h92
        have h94 : Yq = Y := congrArg (fun z => z.2.1) h92
        have h95 : Rq = R := congrArg (fun z => z.2.2) h92
        rw [h93, h94, h95] at hH
        subst h91
        have hr10 := hrq
        have hF := hF hr10
        refine lv_istore (lv' := [(4, .int (zI (mAh X4 i (b) (g).toNat))), (0, .ref (bs + (i))), (1, .int (zI (a))), (2, .int (zI (b))), (3, .int (zI (g)))]) C.1 C.2.1 dX11_speed_41 hl (by decide) rfl (fun ls hl => ?_)
        refine lv_iload C.1 C.2.1 dX11_speed_43 (lv_at hl 0 rfl) ?_
        refine zd_iconst C dX11_speed_45 ?_
        refine zd_icmp_ne C hr10 (by decide) 55 dX11_speed_46 (by decide) (fun c11 => ?_) (fun c11 => ?_)
        · have hF := hF.1 c11
          refine lv_aload_n C.1 C.2.1 dX11_speed_55 rfl (lv_at hl 1 rfl) ?_
          refine lv_iload_n C.1 C.2.1 dX11_speed_56 rfl (lv_at hl 3 rfl) ?_
          obtain ⟨o12, hF⟩ := hF
          refine zgoi (zrunV (As := [.int (zI (b))]) (rest := []) C hE hH hS hl.1 (c_X11_timeOf (l := l) hM (b) hb o12) k_RX11_271 ⟨Nat.le_of_ble_eq_true rfl, Nat.le_of_ble_eq_true rfl⟩ (zM_n0 hM) (zM_k0 hM) rfl rfl rfl (Nat.le_of_ble_eq_true rfl) dX11_speed_57 ⟨Nat.zero_le _, Nat.zero_le _⟩) hS (fun rq Xq Yq Rq H locs hrq hq hH hS => ?_)
          obtain ⟨h91, h92⟩ := hq
          have h93 : Xq = X4 := congrArg (fun z => z.1) h92
          have h94 : Yq = Y := congrArg (fun z => z.2.1) h92
          have h95 : Rq = R := congrArg (fun z => z.2.2) h92
          rw [h93, h94, h95] at hH
          subst h91
          have hr13 := hrq
          have hF := hF hr13
          refine lv_aload_n C.1 C.2.1 dX11_speed_60 rfl (lv_at hl 1 rfl) ?_
          refine lv_iload C.1 C.2.1 dX11_speed_61 (lv_at hl 0 rfl) ?_
          obtain ⟨o14, hF⟩ := hF
          refine zgoi (zrunV (As := [.int (zI (mAh X4 i (b) (g).toNat))]) (rest := [.int (zI (mTim X4 i (b)))]) C hE hH hS hl.1 (c_X11_timeOf (l := l) hM (mAh X4 i (b) (g).toNat) hr10 o14) k_RX11_271 ⟨Nat.le_of_ble_eq_true rfl, Nat.le_of_ble_eq_true rfl⟩ (zM_n0 hM) (zM_k0 hM) rfl rfl rfl (Nat.le_of_ble_eq_true rfl) dX11_speed_63 ⟨Nat.zero_le _, Nat.zero_le _⟩) hS (fun rq Xq Yq Rq H locs hrq hq hH hS => ?_)
          obtain ⟨h91, h92⟩ := hq
          have h93 : Xq = X4 := congrArg (fun z => z.1) h92
          have h94 : Yq = Y := congrArg (fun z => z.2.1) h92
          have h95 : Rq = R := congrArg (fun z => z.2.2) h92
          rw [h93, h94, h95] at hH
          subst h91
          have hr15 := hrq
          have hF := hF hr15
          refine zd_isub C dX11_speed_66 ?_
          obtain ⟨o16, hF⟩ := hF
          exact zd_iret C hr hlk hH hS o16 (⟨rfl, rfl, hF⟩) dX11_speed_67
        · have hF := hF.2 c11
          refine zd_sipush C (by decide) dX11_speed_49 ?_
          refine lv_goto (tgt := 67) C.1 C.2.1 dX11_speed_52 (by decide) ?_
          exact zd_iret C hr hlk hH hS (by decide) (⟨rfl, rfl, hF⟩) dX11_speed_67
      · have hF := hF.2 c8
        refine zd_sipush C (by decide) dX11_speed_31 ?_
        exact zd_iret C hr hlk hH hS (by decide) (⟨rfl, rfl, hF⟩) dX11_speed_34
theorem v_X11_speed {X Y : Nat → Int → Int} {R : Nat → Int → Option Nat} {i : Nat} (a : Int) (ha : rI a) (b : Int) (hb : rI b) (g : Int) (hg : rI g) (hp : oTN X i) : F_X11_speed i X Y R a b g := by
  unfold F_X11_speed
  intro hX hY X1 e1 xr1
  have hT := hp
  have o1 : ∀ z, z ≠ i → X1 z = X z := fun z h => by rw [e1, zU_o h]
  have em : ∀ s k, mIs i X1 s k = mIs i X s k := fun s k => by
    unfold mIs
    rw [o1 _ (by omega)]
  refine ⟨fun k1 => ⟨by unfold rSpeed; rw [k1]; rfl, ⟨fun z h _ => o1 z h, by rw [e1, zU_s]⟩⟩, fun k1 => ?_⟩
  refine ⟨oTN_k (o1 _ (by omega)) (o1 _ (by omega)) (o1 _ (by omega)) hT, fun r4 X3 xr3 h4 => ?_⟩
  obtain ⟨e4, e3⟩ := h4
  rw [em] at e4
  have p3 := ch_pK e1 e3
  refine ⟨fun c => ⟨by unfold rSpeed; rw [← e4, c, k1]; rfl, p3⟩, fun c => ?_⟩
  rw [c, if_pos rfl] at e3
  have hc := mIs_t.mp (e4.symm.trans c)
  rw [c] at e4
  obtain ⟨hB, h27, hb, eP, eT, hoT⟩ := ch_ok hT e1 e3 hc
  have hB2 : oB X3 i (((X3 i 27 - 1).toNat : Nat) : Int) := by
    rw [show (((X3 i 27 - 1).toNat : Nat) : Int) = X3 i 27 - 1 by omega]
    exact hB
  have wy : ∀ z, mIn z 0 (qN X i a) = true → ∃ n : Nat, oB X3 i n ∧ 0 ≤ z ∧ z ≤ n := fun z hz => by
    have h := mIn_t.mp hz
    have h2 : z ≤ X (i + 7) (183 * a) := h.2
    exact ⟨_, hB2, h.1, by omega⟩
  have ea : ∀ z, mIn z 0 (qN X i a) = true → ∀ m, mAh X3 i z m = aN (qP X i a) z.toNat m := fun z hz m => by
    have h := mIn_t.mp hz
    have h2 : z ≤ X (i + 7) (183 * a) := h.2
    have q := mAh_aN hB2 (k := z.toNat) (by omega) m
    rw [show ((z.toNat : Nat) : Int) = z by omega, eP] at q
    exact q
  have ew : ∀ k : Nat, rWy X3 i k = wyP (qP X i a) k := fun k => by
    show bS (onW (rP X3 i) k) 15 = bS (onW (rP (hZ X i 0 a 0) i) k) 15
    rw [eP]
  have en : X3 i 27 - 1 = qN X i a := by
    rw [h27]
    show 1 + X (i + 7) (183 * a) - 1 = X (i + 7) (183 * a)
    omega
  have h0 : 0 ≤ X3 i 27 := by omega
  rw [en]
  refine ⟨h0, fun c1 => ⟨?_, fun _ => ?_⟩, fun c1 => ⟨by unfold rSpeed; rw [k1, ← e4, c1]; rfl, p3⟩⟩
  · obtain ⟨n, g1, g2, g3⟩ := wy b c1
    exact ⟨⟨n, g1, g3⟩, g2⟩
  have hP := rP_par hB2
  rw [eP] at hP
  have hbm := mIn_t.mp c1
  have hbq : b ≤ X (i + 7) (183 * a) := hbm.2
  have ab : -1 ≤ aN (qP X i a) b.toNat g.toNat ∧ aN (qP X i a) b.toNat g.toNat ≤ b.toNat := aN_b hP (by omega) g.toNat
  rw [ea b c1]
  have tb : ∀ z, 0 ≤ z → z ≤ 14 → z ≤ X3 i 27 - 1 → 0 ≤ mTim X3 i z ∧ mTim X3 i z ≤ 99 := fun z z0 z1 z2 => by
    unfold mTim
    by_cases q : z = 0
    · rw [if_pos q]
      exact ⟨by decide, by decide⟩
    · rw [if_neg q]
      exact hoT z (by omega) z2
  have t1 := tb b hbm.1 (by omega) (by omega)
  refine ⟨fun d1 => ⟨⟨hB.1, hbm.1, by omega⟩, fun _ => ⟨⟨hB.1, by omega, by omega⟩, fun _ => ?_⟩⟩, fun d1 => ⟨?_, p3⟩⟩
  · have t2 := tb (aN (qP X i a) b.toNat g.toNat) (by omega) (by omega) (by omega)
    refine ⟨⟨by omega, by omega⟩, ?_, p3⟩
    unfold rSpeed
    rw [k1, ← e4, c1, eT, eT]
    show _ = if aN (qP X i a) b.toNat g.toNat = -1 then _ else _
    rw [if_neg d1]
  · unfold rSpeed
    rw [k1, ← e4, c1]
    show _ = if aN (qP X i a) b.toNat g.toNat = -1 then _ else _
    rw [if_pos (Classical.not_not.mp d1)]
theorem c_X11_speed {l : Launch} {D : va_G} {cy : Nat → ClassId} {bs N : Nat} {sa : Nat → Nat} {kd len : Nat → Nat} {X Y : Nat → Int → Int} {R : Nat → Int → Option Nat} {i : Nat} (hM : zM N kd len R i) (a : Int) (ha : rI a) (b : Int) (hb : rI b) (g : Int) (hg : rI g) (hp : oTN X i) : Met l yX11_speed (.code yX11_speed cX11_speed 5 (some .int) :: zTB) (zRm 3 67) (zPc D cy bs sa N kd len X Y R [.ref (bs + (i)), .int (zI (a)), .int (zI (b)), .int (zI (g))]) (zQi D cy bs N kd len (fun r st => st.2.1 = Y ∧ st.2.2 = R ∧ (r = rSpeed X i (a) (b) (g) ∧ pK X (st.1) i))) 0 0 (zA bs) := w_X11_speed hM a ha b hb g hg (v_X11_speed a ha b hb g hg hp)
