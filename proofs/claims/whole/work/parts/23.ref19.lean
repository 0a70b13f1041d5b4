/-! BEGINNING A FEED -/
def csI (rho : Int) : Cs := (fun s => if s = 0 then rho else if s < 5 then 1 else 0, fun _ => 0)
def lK (X X1 Y Y1 : Nat → Int → Int) (i : Nat) : Prop := (∀ a, a ≠ i → a ≠ i + 13 → a ≠ i + 16 → a ≠ i + 17 → X1 a = X a) ∧ (∀ s, (s < 24 ∨ (30 < s ∧ s < 35) ∨ (37 < s ∧ s < 40) ∨ 47 < s) → X1 i s = X i s) ∧ ∀ a, a ≠ i + 14 → a ≠ i + 15 → Y1 a = Y a
/-- told feeds -/
def oTF (X : Nat → Int → Int) (i : Nat) : Prop := ∀ f, 0 ≤ f → f < X (i + 5) 2 → oFdr X i f
/-- what laying all comes to -/
def lA (X X1 Y1 : Nat → Int → Int) (i : Nat) (n c f : Int) : Prop := hS9 X X1 i n c ∧ X1 i 40 = f ∧ oPl X1 Y1 i 0 ∧ cR X1 i (X1 i 27).toNat (csI (X1 i 28))
def bfW (X : Nat → Int → Int) (i : Nat) : Nat → Int → Int := zU (zU (zU (zU (zU (zU (zU (bgW X i) i 41 1) i 42 1) i 43 0) i 44 0) i 45 0) i 46 0) i 47 0
theorem mHas_1 : ∀ j : Nat, j < 15 → mHas 1 j = true → j = 0 := by decide +kernel
theorem bfW_R {X : Nat → Int → Int} {i n : Nat} (hn : n ≤ 15) : cR (bfW X i) i n (csI (X i 28)) := by
  unfold bfW bgW
  refine ⟨cX_ext ?_ ?_ ?_ ?_ ?_ ?_ ?_ ?_ ?_ ?_ (fun s => ?_), fun j hj hw => ?_⟩
  · rw [zU_n (by omega), zU_n (by omega), zU_n (by omega), zU_n (by omega), zU_n (by omega), zU_n (by omega), zU_n (by omega), zU_n (by omega), zU_n (by omega), zU_n (by omega)]
    rfl
  · rw [zU_n (by omega), zU_n (by omega), zU_n (by omega), zU_n (by omega), zU_n (by omega), zU_n (by omega), zU_s]
    rfl
  · rw [zU_n (by omega), zU_n (by omega), zU_n (by omega), zU_n (by omega), zU_n (by omega), zU_s]
    rfl
  · rw [zU_n (by omega), zU_n (by omega), zU_n (by omega), zU_n (by omega), zU_n (by omega), zU_n (by omega), zU_n (by omega), zU_n (by omega), zU_n (by omega), zU_s]
    rfl
  · rw [zU_n (by omega), zU_n (by omega), zU_n (by omega), zU_n (by omega), zU_n (by omega), zU_n (by omega), zU_n (by omega), zU_n (by omega), zU_s]
    rfl
  · rw [zU_n (by omega), zU_n (by omega), zU_n (by omega), zU_n (by omega), zU_s]
    rfl
  · rw [zU_n (by omega), zU_n (by omega), zU_n (by omega), zU_s]
    rfl
  · rw [zU_n (by omega), zU_n (by omega), zU_s]
    rfl
  · rw [zU_n (by omega), zU_s]
    rfl
  · rw [zU_s]
    rfl
  · show (if s + 10 = 0 then X i 28 else if s + 10 < 5 then 1 else 0) = (0 : Int)
    rw [if_neg (by omega), if_neg (by omega)]
  · have e := mHas_1 j (by omega) hw
    subst e
    rw [zU_o (by omega), zU_o (by omega), zU_o (by omega), zU_o (by omega), zU_o (by omega), zU_o (by omega), zU_o (by omega)]
    exact zU_s
theorem bfW_o {X : Nat → Int → Int} {i a : Nat} (h : a ≠ i) (g : a ≠ i + 17) : bfW X i a = X a := by
  unfold bfW bgW
  rw [zU_o h, zU_o h, zU_o h, zU_o h, zU_o h, zU_o h, zU_o h, zU_o g, zU_o h, zU_o h]
theorem bfW_n {X : Nat → Int → Int} {i : Nat} {s : Int} (h : s < 36 ∨ (37 < s ∧ s < 41) ∨ 47 < s) : bfW X i i s = X i s := by
  unfold bfW bgW
  rw [zU_n (by omega), zU_n (by omega), zU_n (by omega), zU_n (by omega), zU_n (by omega), zU_n (by omega), zU_n (by omega), zU_n (by omega), zU_n (by omega), zU_n (by omega)]
theorem bfW_f {X Y : Nat → Int → Int} {i : Nat} : fK X (bfW X i) Y Y i := ⟨fun _ h g => bfW_o h g, fun s h => bfW_n (by omega), fun _ _ => rfl⟩
theorem bfW_pl {X Y : Nat → Int → Int} {i : Nat} (h : oH X Y i) : oPl (bfW X i) Y i 0 ∧ cR (bfW X i) i (bfW X i i 27).toNat (csI (bfW X i i 28)) := by
  have h27 := h.1.2.2.1
  have e27 : bfW X i i 27 = X i 27 := bfW_n (by omega)
  have e28 : bfW X i i 28 = X i 28 := bfW_n (by omega)
  have k := bfW_R (X := X) (i := i) (n := (X i 27).toNat) (by omega)
  rw [e27, e28]
  refine ⟨⟨oH_f bfW_f (by rw [e28]; exact h.2.1.1) h, ?_⟩, k⟩
  rw [e27]
  refine ⟨?_, ?_, ?_⟩
  · show oCs (cX (bfW X i) i) _ _ _
    rw [k.1]
    exact ⟨⟨(by decide : (0 : Int) ≤ 0), by show (0 : Int) < ((X i 27).toNat : Nat); omega⟩, ⟨(by decide : (0 : Int) ≤ 0), (by decide : (0 : Int) ≤ 15 + 15 * 0)⟩, ⟨(by decide : (0 : Int) ≤ 0), (by decide : (0 : Int) ≤ 15 + 15 * 0)⟩, ⟨(by decide : (0 : Int) ≤ 0), (by decide : (0 : Int) ≤ 15 + 15 * 0)⟩, ⟨(by decide : (0 : Int) ≤ 0), (by decide : (0 : Int) ≤ 15)⟩, ⟨(by decide : (0 : Int) ≤ 1), (by decide : (1 : Int) ≤ 15 + 15 * 0)⟩⟩
  · show mHas (bfW X i i 36) 0 = true
    have e : bfW X i i 36 = 1 := congrFun k.1 3
    rw [e]
    decide +kernel
  · show 0 ≤ bfW X i i 28 ∧ bfW X i i 28 ≤ 1
    rw [e28]
    exact h.2.1.1

abbrev cX11_layAll : ByteArray := prog_13_method_73_code
def yX11_layAll : MethodName := ⟨RX11, "layAll", "(III)Z"⟩
theorem dX11_layAll_0 : decode cX11_layAll 0 = .ok (.aload_n 0, 1) := by decide +kernel
theorem dX11_layAll_1 : decode cX11_layAll 1 = .ok (.iload_n 3, 1) := by decide +kernel
theorem dX11_layAll_2 : decode cX11_layAll 2 = .ok (.invokevirtual 352, 3) := by decide +kernel
theorem dX11_layAll_5 : decode cX11_layAll 5 = .ok (.ifCond .eq 12, 3) := by decide +kernel
theorem dX11_layAll_8 : decode cX11_layAll 8 = .ok (.aload_n 0, 1) := by decide +kernel
theorem dX11_layAll_9 : decode cX11_layAll 9 = .ok (.iload_n 1, 1) := by decide +kernel
theorem dX11_layAll_10 : decode cX11_layAll 10 = .ok (.iload_n 2, 1) := by decide +kernel
theorem dX11_layAll_11 : decode cX11_layAll 11 = .ok (.invokevirtual 397, 3) := by decide +kernel
theorem dX11_layAll_14 : decode cX11_layAll 14 = .ok (.ifCond .ne 5, 3) := by decide +kernel
theorem dX11_layAll_17 : decode cX11_layAll 17 = .ok (.iconst 0, 1) := by decide +kernel
theorem dX11_layAll_18 : decode cX11_layAll 18 = .ok (.ireturn, 1) := by decide +kernel
theorem dX11_layAll_19 : decode cX11_layAll 19 = .ok (.aload_n 0, 1) := by decide +kernel
theorem dX11_layAll_20 : decode cX11_layAll 20 = .ok (.invokevirtual 400, 3) := by decide +kernel
theorem dX11_layAll_23 : decode cX11_layAll 23 = .ok (.iconst 1, 1) := by decide +kernel
theorem dX11_layAll_24 : decode cX11_layAll 24 = .ok (.ireturn, 1) := by decide +kernel
theorem q_1649 : Cond.methodLink RX11 352 yX11_hasFeed ∈ zTB := zmem 1649 (by decide +kernel) rfl
theorem q_1651 : Cond.instanceMethod yX11_hasFeed ∈ zTB := zmem 1651 (by decide +kernel) rfl
theorem q_62 : Cond.selects RX11 yX11_hasFeed yX11_hasFeed ∈ zTB := zmem 62 (by decide +kernel) rfl
theorem q_1652 : Cond.code yX11_hasFeed cX11_hasFeed 2 (some .boolean) ∈ zTB := zmem 1652 (by decide +kernel) rfl
theorem k_RX11_352 : zLv RX11 352 RX11 yX11_hasFeed cX11_hasFeed 2 (some .boolean) 1 := ⟨⟨q_1649, q_1651, q_62, q_140, q_1652⟩, rfl, ⟨by decide, by decide⟩, by decide +kernel⟩
theorem q_1669 : Cond.methodLink RX11 397 yX11_hand ∈ zTB := zmem 1669 (by decide +kernel) rfl
theorem q_1671 : Cond.instanceMethod yX11_hand ∈ zTB := zmem 1671 (by decide +kernel) rfl
theorem q_66 : Cond.selects RX11 yX11_hand yX11_hand ∈ zTB := zmem 66 (by decide +kernel) rfl
theorem q_1672 : Cond.code yX11_hand cX11_hand 3 (some .boolean) ∈ zTB := zmem 1672 (by decide +kernel) rfl
theorem k_RX11_397 : zLv RX11 397 RX11 yX11_hand cX11_hand 3 (some .boolean) 2 := ⟨⟨q_1669, q_1671, q_66, q_140, q_1672⟩, rfl, ⟨by decide, by decide⟩, by decide +kernel⟩
theorem q_1712 : Cond.methodLink RX11 400 yX11_beginFeed ∈ zTB := zmem 1712 (by decide +kernel) rfl
theorem q_1714 : Cond.instanceMethod yX11_beginFeed ∈ zTB := zmem 1714 (by decide +kernel) rfl
theorem q_75 : Cond.selects RX11 yX11_beginFeed yX11_beginFeed ∈ zTB := zmem 75 (by decide +kernel) rfl
theorem q_1715 : Cond.code yX11_beginFeed cX11_beginFeed 1 none ∈ zTB := zmem 1715 (by decide +kernel) rfl
theorem k_RX11_400 : zLv RX11 400 RX11 yX11_beginFeed cX11_beginFeed 1 none 0 := ⟨⟨q_1712, q_1714, q_75, q_140, q_1715⟩, rfl, ⟨by decide, by decide⟩, by decide +kernel⟩
def F_X11_layAll (i : Nat) (X Y : Nat → Int → Int) (R : Nat → Int → Option Nat) (a : Int) (b : Int) (g : Int) : Prop := (∀ i j, rI (X i j)) → (∀ i j, rL (Y i j)) → (0 ≤ X (i + 5) 2) ∧ (∀ r3 : Bool, ∀ X2 : Nat → Int → Int, (∀ i j, rI (X2 i j)) → (r3 = mIs i X 2 (g) ∧ X2 = zU X i 40 (g)) → (((r3 = false) → (false = (mIs i X 2 (g) && (mIs i X 1 (b) && mIs i X 0 (a))) ∧ lK X (X2) Y (Y) i ∧ (false = true → lA X (X2) (Y) i (a) (b) (g)))) ∧ ((r3 = true) → ((oTN X2 i) ∧ (∀ r8 : Bool, ∀ X6 : Nat → Int → Int, (∀ i j, rI (X6 i j)) → ∀ Y7 : Nat → Int → Int, (∀ i j, rL (Y7 i j)) → (r8 = (mIs i X2 1 (b) && mIs i X2 0 (a)) ∧ hK X2 (X6) Y (Y7) i ∧ (r8 = true → hS9 X2 (X6) i (a) (b) ∧ oH (X6) (Y7) i)) → (((r8 = true) → (∀ X10 : Nat → Int → Int, (∀ i j, rI (X10 i j)) → (X10 = zU (zU (zU (zU (zU (zU (zU (bgW X6 i) i 41 1) i 42 1) i 43 0) i 44 0) i 45 0) i 46 0) i 47 0) → (true = (mIs i X 2 (g) && (mIs i X 1 (b) && mIs i X 0 (a))) ∧ lK X (X10) Y (Y7) i ∧ (true = true → lA X (X10) (Y7) i (a) (b) (g))))) ∧ ((r8 = false) → (false = (mIs i X 2 (g) && (mIs i X 1 (b) && mIs i X 0 (a))) ∧ lK X (X6) Y (Y7) i ∧ (false = true → lA X (X6) (Y7) i (a) (b) (g))))))))))
set_option maxHeartbeats 4000000 in
set_option maxRecDepth 100000 in
theorem w_X11_layAll {l : Launch} {D : va_G} {cy : Nat → ClassId} {bs N : Nat} {sa : Nat → Nat} {kd len : Nat → Nat} {X Y : Nat → Int → Int} {R : Nat → Int → Option Nat} {i : Nat} (hM : zM N kd len R i) (a : Int) (ha : rI a) (b : Int) (hb : rI b) (g : Int) (hg : rI g) (hF : F_X11_layAll i X Y R a b g) : Met l yX11_layAll (.code yX11_layAll cX11_layAll 4 (some .boolean) :: zTB) (zRm 6 140) (zPc D cy bs sa N kd len X Y R [.ref (bs + (i)), .int (zI (a)), .int (zI (b)), .int (zI (g))]) (zQi D cy bs N kd len (fun r st => st.2.2 = R ∧ ∃ rb : Bool, r = bz rb ∧ (rb = (mIs i X 2 (g) && (mIs i X 1 (b) && mIs i X 0 (a))) ∧ lK X (st.1) Y (st.2.1) i ∧ (rb = true → lA X (st.1) (st.2.1) i (a) (b) (g))))) 0 0 (zA bs) := by
  refine zstart (by decide) (Nat.le_of_ble_eq_true rfl) ?_
  intro p e s m args below meth c ls C hE hH hr hlk hnm hl hargs
  have hF := hF hH.2.2.1 hH.2.2.2
  have hS : va_S (zA bs) s.heap s.heap [] := va_S.rf
  have hl : lv_has ls 4 [(0, .ref (bs + (i))), (1, .int (zI (a))), (2, .int (zI (b))), (3, .int (zI (g)))] := hl
  refine lv_aload_n C.1 C.2.1 dX11_layAll_0 rfl (lv_at hl 0 rfl) ?_
  refine lv_iload_n C.1 C.2.1 dX11_layAll_1 rfl (lv_at hl 3 rfl) ?_
  obtain ⟨o1, hF⟩ := hF
  refine zgoi (zrunV (As := [.int (zI (g))]) (rest := []) C hE hH hS hl.1 (c_X11_hasFeed (l := l) hM (g) hg o1) k_RX11_352 ⟨Nat.le_of_ble_eq_true rfl, Nat.le_of_ble_eq_true rfl⟩ (zM_n0 hM) (zM_k0 hM) rfl rfl rfl (Nat.le_of_ble_eq_true rfl) dX11_layAll_2 ⟨Nat.zero_le _, Nat.zero_le _⟩) hS (fun rq X2 Yq Rq H locs hrq hq hH hS => ?_)
  obtain ⟨h9Y, h9R, hq⟩ := hq
  dsimp only at h9Y h9R
  rw [h9Y, h9R] at hH
  obtain ⟨r3, h91, hq⟩ := hq
  subst h91
  have hF := hF r3 X2 hH.2.2.1 hq
  refine zd_ifB_eq C 17 dX11_layAll_5 (by decide) (fun c4 => ?_) (fun c4 => ?_)
  · have hF := hF.1 c4
    refine zd_iconst C dX11_layAll_17 ?_
    exact zd_zret C hr hlk hH hS (by decide) (⟨rfl, _, rfl, hF⟩) dX11_layAll_18
  · have hF := hF.2 c4
    refine lv_aload_n C.1 C.2.1 dX11_layAll_8 rfl (lv_at hl 0 rfl) ?_
    refine lv_iload_n C.1 C.2.1 dX11_layAll_9 rfl (lv_at hl 1 rfl) ?_
    refine lv_iload_n C.1 C.2.1 dX11_layAll_10 rfl (lv_at hl 2 rfl) ?_
    obtain ⟨o5, hF⟩ := hF
    refine zgoi (zrunV (As := [.int (zI (a)), .int (zI (b))]) (rest := []) C hE hH hS hl.1 (c_X11_hand (l := l) hM (a) ha (b) hb o5) k_RX11_397 ⟨Nat.le_of_ble_eq_true rfl, Nat.le_of_ble_eq_true rfl⟩ (zM_n0 hM) (zM_k0 hM) rfl rfl rfl (Nat.le_of_ble_eq_true rfl) dX11_layAll_11 ⟨Nat.zero_le _, Nat.zero_le _⟩) hS (fun rq X6 Y7 Rq H locs hrq hq hH hS => ?_)
    obtain ⟨h9R, hq⟩ := hq
    dsimp only at h9R
    rw [h9R] at hH
    obtain ⟨r8, h91, hq⟩ := hq
    subst h91
    have hF := hF r8 X6 hH.2.2.1 Y7 hH.2.2.2 hq
    refine zd_ifB_ne C 19 dX11_layAll_14 (by decide) (fun c9 => ?_) (fun c9 => ?_)
    · have hF := hF.1 c9
      refine lv_aload_n C.1 C.2.1 dX11_layAll_19 rfl (lv_at hl 0 rfl) ?_
      refine zgov (zrunV (As := []) (rest := []) C hE hH hS hl.1 (c_X11_beginFeed (l := l) hM ) k_RX11_400 ⟨Nat.le_of_ble_eq_true rfl, Nat.le_of_ble_eq_true rfl⟩ (zM_n0 hM) (zM_k0 hM) rfl rfl rfl (Nat.le_of_ble_eq_true rfl) dX11_layAll_20 ⟨Nat.zero_le _, Nat.zero_le _⟩) hS (fun X10 Yq Rq H locs hq hH hS => ?_)
      obtain ⟨h9Y, h9R, hq⟩ := hq
      dsimp only at h9Y h9R
      rw [h9Y, h9R] at hH
      have hF := hF X10 hH.2.2.1 hq
      refine zd_iconst C dX11_layAll_23 ?_
      exact zd_zret C hr hlk hH hS (by decide) (⟨rfl, _, rfl, hF⟩) dX11_layAll_24
    · have hF := hF.2 c9
      refine zd_iconst C dX11_layAll_17 ?_
      exact zd_zret C hr hlk hH hS (by decide) (⟨rfl, _, rfl, hF⟩) dX11_layAll_18
theorem v_X11_layAll {X Y : Nat → Int → Int} {R : Nat → Int → Option Nat} {i : Nat} (a : Int) (ha : rI a) (b : Int) (hb : rI b) (g : Int) (hg : rI g) (hp : oTN X i) : F_X11_layAll i X Y R a b g := by
  unfold F_X11_layAll
  intro hX hY
  refine ⟨(hp.1 2 (by decide) (by decide)).1, fun r3 X2 xr2 h2 => ?_⟩
  obtain ⟨e3, e2⟩ := h2
  have o2 : ∀ a, a ≠ i → X2 a = X a := fun a h => by rw [e2, zU_o h]
  have n2 : ∀ s, s ≠ 40 → X2 i s = X i s := fun s h => by rw [e2, zU_n (by omega)]
  have em : ∀ s k, mIs i X2 s k = mIs i X s k := fun s k => by
    unfold mIs
    rw [o2 _ (by omega)]
  refine ⟨fun c => ?_, fun c => ⟨oTN_k (o2 _ (by omega)) (o2 _ (by omega)) (o2 _ (by omega)) hp, fun r8 X6 xr6 Y7 yr7 h6 => ?_⟩⟩
  · refine ⟨?_, ⟨fun a g1 _ _ _ => o2 a g1, fun s hs => n2 s (by omega), fun _ _ _ => rfl⟩, fun q => by cases q⟩
    rw [← e3, c]
    rfl
  obtain ⟨e8, hk, h8⟩ := h6
  rw [em, em] at e8
  have lk : lK X X6 Y Y7 i := ⟨fun a g1 g2 g3 g4 => (hk.1 a g1 g2 g3).trans (o2 a g1), fun s hs => (hk.2.1 s (by omega) (by omega)).trans (n2 s (by omega)), hk.2.2⟩
  refine ⟨fun c8 X10 xr10 e10 => ?_, fun c8 => ?_⟩
  · obtain ⟨h9, ho⟩ := h8 c8
    have e10 : X10 = bfW X6 i := e10
    rw [e10]
    refine ⟨by rw [← e3, ← e8, c, c8]; rfl, ⟨fun a g1 g2 g3 g4 => (bfW_o g1 g4).trans (lk.1 a g1 g2 g3 g4), fun s hs => (bfW_n (by omega)).trans (lk.2.1 s hs), lk.2.2⟩, fun _ => ⟨?_, ?_, bfW_pl ho⟩⟩
    · obtain ⟨g1, g2, g3, g4, g5, g6, g7⟩ := h9
      rw [o2 _ (by omega)] at g3 g5 g6 g7
      rw [o2 _ (by omega)] at g4
      exact ⟨(bfW_n (by omega)).trans g1, (bfW_n (by omega)).trans g2, (bfW_n (by omega)).trans g3, (bfW_n (by omega)).trans g4, (bfW_n (by omega)).trans g5, (bfW_n (by omega)).trans g6, (bfW_n (by omega)).trans g7⟩
    · rw [bfW_n (by omega), hk.2.1 _ (by omega) (by omega), e2, zU_s]
  · refine ⟨?_, lk, fun q => by cases q⟩
    rw [← e3, ← e8, c, c8]
    rfl
theorem c_X11_layAll {l : Launch} {D : va_G} {cy : Nat → ClassId} {bs N : Nat} {sa : Nat → Nat} {kd len : Nat → Nat} {X Y : Nat → Int → Int} {R : Nat → Int → Option Nat} {i : Nat} (hM : zM N kd len R i) (a : Int) (ha : rI a) (b : Int) (hb : rI b) (g : Int) (hg : rI g) (hp : oTN X i) : Met l yX11_layAll (.code yX11_layAll cX11_layAll 4 (some .boolean) :: zTB) (zRm 6 140) (zPc D cy bs sa N kd len X Y R [.ref (bs + (i)), .int (zI (a)), .int (zI (b)), .int (zI (g))]) (zQi D cy bs N kd len (fun r st => st.2.2 = R ∧ ∃ rb : Bool, r = bz rb ∧ (rb = (mIs i X 2 (g) && (mIs i X 1 (b) && mIs i X 0 (a))) ∧ lK X (st.1) Y (st.2.1) i ∧ (rb = true → lA X (st.1) (st.2.1) i (a) (b) (g))))) 0 0 (zA bs) := w_X11_layAll hM a ha b hb g hg (v_X11_layAll a ha b hb g hg hp)
