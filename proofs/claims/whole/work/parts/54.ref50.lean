/-! LINES OF NETS -/
theorem ifd {α : Type} {P : Prop} [Decidable P] {a b : α} : (if P then a else b) = if decide P = true then a else b := by
  by_cases h : P
  · rw [if_pos h, if_pos (decide_eq_true h)]
  · rw [if_neg h, if_neg (by rw [decide_eq_false h]; decide)]
/-- too many, then the token behind the word -/
theorem fu_st {X X3 X5 Y Y5 : Nat → Int → Int} {i : Nat} {c : Bool} {b : Int} (hr : oRd X i) (h3 : X3 = if c = true then adF X i 3 b else X)
    (h5 : tkC X3 X5 Y Y5 i ∧ X5 i 11 = tkN (X3 (i + 1)) (X3 i 12).toNat (X3 i 11).toNat ∧ X5 i 13 = tkB (X3 (i + 1)) (X3 i 12).toNat (X3 i 11).toNat ∧ X5 i 14 = tkS (X3 (i + 1)) (X3 i 12).toNat (X3 i 11).toNat ∧ (X5 i 14 = 3 → X5 i 15 = tkV (X3 (i + 1)) (X3 i 12).toNat (X3 i 11).toNat) ∧ (X5 i 14 = 2 → Y5 i 16 = tkW (X3 (i + 1)) (X3 i 12).toNat (X3 i 11).toNat)) :
    oRd X3 i ∧ oRd X5 i ∧ rdK X X5 Y Y5 i ∧ X5 (i + 11) = X (i + 11) ∧ X5 (i + 12) = X (i + 12) ∧ X5 i 23 = X i 23 ∧ X5 i 22 = X i 22 ∧ X5 i 12 = X i 12 ∧ X5 (i + 1) = X (i + 1) ∧
    ∀ s, rdS X Y i s → b = tkB (X (i + 1)) (X i 12).toNat s.1 → tkS (X (i + 1)) (X i 12).toNat s.1 ≠ 0 → rdS X5 Y5 i (tkN (X (i + 1)) (X i 12).toNat s.1, s.2.1, if c then nt s.2.2 3 (tkB (X (i + 1)) (X i 12).toNat s.1) else s.2.2) := by
  have o3 : (∀ z, z ≠ i → X3 z = X z) ∧ ∀ s, s ≠ 18 → s ≠ 19 → X3 i s = X i s := by
    rw [h3]
    split
    · exact adF_o
    · exact ⟨fun _ _ => rfl, fun _ _ _ => rfl⟩
  have r3 : oRd X3 i := oRd_k (o3.1 _ (by omega)) (o3.2 _ (by decide) (by decide)) (o3.2 _ (by decide) (by decide)) hr
  obtain ⟨t5, h5⟩ := h5
  have r5 := oRd_t r3 t5 h5.1
  have f1 : X5 (i + 1) = X (i + 1) := (t5.1 _ (by omega)).trans (o3.1 _ (by omega))
  have f2 : X5 i 12 = X i 12 := (t5.2.1 12 (by decide) (by decide) (by decide) (by decide)).trans (o3.2 _ (by decide) (by decide))
  rw [o3.1 (i + 1) (by omega), o3.2 12 (by decide) (by decide), o3.2 11 (by decide) (by decide)] at h5
  refine ⟨r3, r5, ⟨fun z h1 h2 h3 => (t5.1 z h1).trans (o3.1 z h1), fun s hs => (t5.2.1 s (by omega) (by omega) (by omega) (by omega)).trans (o3.2 s (by omega) (by omega)), t5.2.2⟩, (t5.1 _ (by omega)).trans (o3.1 _ (by omega)), (t5.1 _ (by omega)).trans (o3.1 _ (by omega)), (t5.2.1 _ (by decide) (by decide) (by decide) (by decide)).trans (o3.2 _ (by decide) (by decide)), (t5.2.1 _ (by decide) (by decide) (by decide) (by decide)).trans (o3.2 _ (by decide) (by decide)), f2, f1, fun s hs hb k0 => ?_⟩
  obtain ⟨⟨sn, sa⟩, ⟨s18, s19⟩, st⟩ := hs
  have le := tk_le (T := X (i + 1)) sn
  have lt := (le.2.2 k0).2
  have e11 : (X i 11).toNat = tkN (X (i + 1)) (X i 12).toNat s.1 := by rw [sa.1]; rfl
  rw [e11] at h5
  refine ⟨⟨by rw [f2]; exact le.2.1.2, ?_⟩, ⟨?_, ?_⟩, ?_⟩
  · unfold tkAt
    rw [f1, f2]
    exact h5
  · rw [t5.2.1 18 (by decide) (by decide) (by decide) (by decide), h3]
    show _ = (if c = true then nt s.2.2 3 _ else s.2.2).1
    cases c with
    | false => exact s18
    | true =>
      show adF X i 3 b i 18 = (nt s.2.2 3 _).1
      unfold adF nt
      by_cases z : s.2.2.1 = 0
      · rw [if_pos (Or.inl (s18.trans z)), if_pos z, zU_n (by omega), zU_s]
      · have q := s19 z
        rw [if_neg (by omega), if_neg z]
        exact s18
  · rw [t5.2.1 19 (by decide) (by decide) (by decide) (by decide), f1, f2, h3]
    show (if c = true then nt s.2.2 3 _ else s.2.2).1 ≠ 0 → _ = (if c = true then nt s.2.2 3 _ else s.2.2).2 ∧ (if c = true then nt s.2.2 3 _ else s.2.2).2 < _
    cases c with
    | false =>
      intro z
      have q := s19 z
      exact ⟨q.1, Int.lt_trans q.2 (Int.ofNat_lt.mpr lt)⟩
    | true =>
      intro _
      show adF X i 3 b i 19 = (nt s.2.2 3 _).2 ∧ (nt s.2.2 3 _).2 < _
      unfold adF nt
      by_cases z : s.2.2.1 = 0
      · rw [if_pos (Or.inl (s18.trans z)), if_pos z, zU_s]
        exact ⟨hb, Int.ofNat_lt.mpr lt⟩
      · have q := s19 z
        rw [if_neg (by omega), if_neg z]
        exact ⟨q.1, Int.lt_trans q.2 (Int.ofNat_lt.mpr lt)⟩
  · intro z
    have z0 : s.2.2.1 = 0 := by
      have z : (if c = true then nt s.2.2 3 (tkB (X (i + 1)) (X i 12).toNat s.1) else s.2.2).1 = 0 := z
      split at z
      · unfold nt at z
        split at z
        · exact absurd (show (3 : Int) = 0 from z) (by decide)
        · exact z
      · exact z
    obtain ⟨q1, q2⟩ := st z0
    refine ⟨fun y y0 y1 => ?_, ?_⟩
    · rw [t5.1 _ (by omega), o3.1 _ (by omega)]
      exact q1 y y0 y1
    · rw [t5.2.1 23 (by decide) (by decide) (by decide) (by decide), o3.2 _ (by decide) (by decide)]
      exact q2
/-- what a line comes to -/
def lnR (X1 Y1 : Nat → Int → Int) (i : Nat) (r : Bool) : Int ⊕ rST → Prop
  | .inl pl => r = false ∧ X1 i 17 = pl
  | .inr s => r = true ∧ rdS X1 Y1 i s
def bnD (of : Int) (X : Nat → Int → Int) (i : Nat) : Prop := if of = 0 then 0 ≤ X (i + 11) 6 ∧ X (i + 11) 6 ≤ 6 else if of = 1 then (0 ≤ X (i + 11) 0 ∧ X (i + 11) 0 ≤ 14) ∧ (X i 23 = 0 ∨ ((X i 23 = 182 ∨ ∃ k : Int, 1 ≤ k ∧ k ≤ 14 ∧ X i 23 = 4 + 13 * (k - 1)) ∧ 0 ≤ X (i + 11) (X i 23) ∧ X (i + 11) (X i 23) ≤ 3)) else 0 ≤ X (i + 11) 0 ∧ X (i + 11) 0 ≤ (if of = 2 then 40 else if of = 3 then 8 else 6)
abbrev wdS (X Y : Nat → Int → Int) (i : Nat) (s : rST) : Int := if tkS (X (i + 1)) (X i 12).toNat s.1 = 2 then tkW (X (i + 1)) (X i 12).toNat s.1 else 0
def lnP (of w b : Int) (X X1 Y Y1 : Nat → Int → Int) (i : Nat) (r : Bool) : Prop := rdK X X1 Y Y1 i ∧ (r = true → oRd X1 i ∧ bnD of X1 i) ∧ ∀ s, rdS X Y i s → w = wdS X Y i s → b = tkB (X (i + 1)) (X i 12).toNat s.1 → tkS (X (i + 1)) (X i 12).toNat s.1 ≠ 0 → lnR X1 Y1 i r (rdL (X (i + 1)) (X i 12).toNat of s)
theorem bnD_k {of : Int} {X X1 : Nat → Int → Int} {i : Nat} (h1 : X1 (i + 11) = X (i + 11)) (h2 : X1 i 23 = X i 23) (h : bnD of X i) : bnD of X1 i := by
  unfold bnD at h ⊢
  rw [h1, h2]
  exact h
def mNw (w : Int) : Int := if w = 1937007984 then 0 else if w = 127961880028532 then 1 else if w = 495873782388 then 2 else if w = 1920298085 then 3 else if w = 7629157 then 4 else if w = 125780120138340 then 5 else -1
theorem mNw_k (w : Int) : (w ≠ 27412351463812724 → kwN 0 w = mNw w) ∧ (w = 27412351463812724 → kwN 0 w = 6) ∧ -1 ≤ mNw w ∧ mNw w ≤ 5 := by
  refine ⟨fun h => ?_, fun h => by rw [h]; rfl, ?_, ?_⟩
  · unfold kwN mNw
    rw [if_pos rfl, if_neg h]
  · unfold mNw
    repeat' split
    all_goals decide
  · unfold mNw
    repeat' split
    all_goals decide
theorem fl0_nt {fl : Int × Int} {c : Bool} {f pl : Int} (hf : f ≠ 0) (h : (if c then fl else nt fl f pl).1 = 0) : fl.1 = 0 ∧ c = true := by
  cases c with
  | true => exact ⟨h, rfl⟩
  | false =>
    have h : (nt fl f pl).1 = 0 := h
    unfold nt at h
    split at h
    · exact absurd h hf
    · rename_i g
      exact absurd h g
theorem fl0_n3 {fl : Int × Int} {c : Bool} {f pl : Int} (hf : f ≠ 0) (h : (if c then nt fl f pl else fl).1 = 0) : fl.1 = 0 ∧ c = false := by
  cases c with
  | false => exact ⟨h, rfl⟩
  | true =>
    have h : (nt fl f pl).1 = 0 := h
    unfold nt at h
    split at h
    · exact absurd h hf
    · rename_i g
      exact absurd h g
theorem rdL_k {T : Int → Int} {n : Nat} {of : Int} {s : rST} (hk : kwT T n s.1 of = -1) : rdL T n of s = .inl (tkB T n s.1) := by
  unfold rdL
  rw [if_pos hk]
/-- the fault so far, behind the word -/
abbrev f1L (T : Int → Int) (n : Nat) (of k : Int) (s : rST) : Int × Int := if fuN of k s.2.1.1 s.2.1.2 then nt s.2.2 3 (tkB T n s.1) else s.2.2
abbrev f2L (T : Int → Int) (n : Nat) (of k : Int) (told : Int → Int) (p : Nat) (j : Nat) (f : Int × Int) : Int × Int := if cbN of k j (tkV T n (ptN T n p j)) (tkV T n p) told then f else nt f 2 (tkB T n (ptN T n p j))
theorem rdN_i {T : Int → Int} {n : Nat} {of w : Int} {told : Int → Int} {p : Nat} {fl : Int × Int} {j : Nat} {f : Int × Int} (h : rdN T n of w told p fl j = .inr f) : rdN T n of w told p fl (j + 1) = if tkS T n (ptN T n p j) = 3 then .inr (f2L T n of w told p j f) else .inl (tkB T n (ptN T n p j)) := by
  show (match rdN T n of w told p fl j with | .inl pl => _ | .inr f => _) = _
  rw [h]
theorem rdN_y {T : Int → Int} {n : Nat} {of w : Int} {told : Int → Int} {p : Nat} {fl : Int × Int} {j : Nat} {f : Int × Int} (h : rdN T n of w told p fl j = .inr f) (k : tkS T n (ptN T n p j) = 3) : rdN T n of w told p fl (j + 1) = .inr (f2L T n of w told p j f) := by
  rw [rdN_i h, if_pos k]
theorem rdN_x {T : Int → Int} {n : Nat} {of w : Int} {told : Int → Int} {p : Nat} {fl : Int × Int} {j : Nat} {f : Int × Int} (h : rdN T n of w told p fl j = .inr f) (k : tkS T n (ptN T n p j) ≠ 3) : rdN T n of w told p fl (j + 1) = .inl (tkB T n (ptN T n p j)) := by
  rw [rdN_i h, if_neg k]
theorem rdN_l {T : Int → Int} {n : Nat} {of w : Int} {told : Int → Int} {p : Nat} {fl : Int × Int} {j : Nat} {pl : Int} (h : rdN T n of w told p fl j = .inl pl) : ∀ d, rdN T n of w told p fl (j + d) = .inl pl
  | 0 => h
  | d + 1 => by
    show (match rdN T n of w told p fl (j + d) with | .inl pl => _ | .inr f => _) = _
    rw [rdN_l h d]
theorem rdL_n {T : Int → Int} {n : Nat} {of k : Int} {s : rST} (hk : kwT T n s.1 of = k) (k1 : k ≠ -1) {f : Int × Int} (h : rdN T n of k s.2.1.1 (tkN T n s.1) (f1L T n of k s) (ncN of) = .inr f) : rdL T n of s = .inr (ptN T n (tkN T n s.1) (ncN of), if f.1 = 0 then tlN of k (fun j => tkV T n (ptN T n (tkN T n s.1) j)) s.2.1 else s.2.1, f) := by
  unfold rdL
  rw [hk, if_neg k1, h]
theorem rdL_l {T : Int → Int} {n : Nat} {of k : Int} {s : rST} (hk : kwT T n s.1 of = k) (k1 : k ≠ -1) {pl : Int} (h : rdN T n of k s.2.1.1 (tkN T n s.1) (f1L T n of k s) (ncN of) = .inl pl) : rdL T n of s = .inl pl := by
  unfold rdL
  rw [hk, if_neg k1, h]
/-- what is told -/
theorem rdS_tl {X8 X12 Y : Nat → Int → Int} {i p : Nat} {td td' : (Int → Int) × Int} {fl : Int × Int} (h : rdS X8 Y i (p, td, fl)) (o : ∀ z, z ≠ i → z ≠ i + 11 → X12 z = X8 z) (n : ∀ s, s ≠ 23 → X12 i s = X8 i s) (t : fl.1 = 0 → (∀ y, 0 ≤ y → y < 183 → X12 (i + 11) y = td'.1 y) ∧ X12 i 23 = td'.2) : rdS X12 Y i (p, if fl.1 = 0 then td' else td, fl) := by
  obtain ⟨⟨sn, sa⟩, ⟨s18, s19⟩, st⟩ := h
  have f1 : X12 (i + 1) = X8 (i + 1) := o _ (by omega) (by omega)
  have f2 : X12 i 12 = X8 i 12 := n _ (by decide)
  refine ⟨⟨by rw [f2]; exact sn, ?_⟩, ⟨by rw [n 18 (by decide)]; exact s18, by rw [n 19 (by decide), f1, f2]; exact s19⟩, fun z => ?_⟩
  · unfold tkAt at sa ⊢
    rw [f1, f2, n 11 (by decide), n 13 (by decide), n 14 (by decide), n 15 (by decide)]
    exact sa
  · have z : fl.1 = 0 := z
    obtain ⟨t1, t2⟩ := t z
    show (∀ y, 0 ≤ y → y < 183 → X12 (i + 11) y = (if fl.1 = 0 then td' else td).1 y) ∧ X12 i 23 = (if fl.1 = 0 then td' else td).2
    rw [if_pos z]
    exact ⟨t1, t2⟩
theorem val_m1 {v lo hi : Int} (h : 0 ≤ v) : (mIn v lo hi && decide (v ≠ -1)) = mIn v lo hi := by
  rw [decide_eq_true (by omega), Bool.and_true]
abbrev cX11_netWord : ByteArray := prog_13_method_21_code
def yX11_netWord : MethodName := ⟨RX11, "netWord", "(J)I"⟩
theorem dX11_netWord_0 : decode cX11_netWord 0 = .ok (.lload_n 1, 1) := by decide +kernel
theorem dX11_netWord_1 : decode cX11_netWord 1 = .ok (.ldc2_w 159, 3) := by decide +kernel
theorem dX11_netWord_4 : decode cX11_netWord 4 = .ok (.lcmp, 1) := by decide +kernel
theorem dX11_netWord_5 : decode cX11_netWord 5 = .ok (.ifCond .ne 7, 3) := by decide +kernel
theorem dX11_netWord_8 : decode cX11_netWord 8 = .ok (.iconst 0, 1) := by decide +kernel
theorem dX11_netWord_9 : decode cX11_netWord 9 = .ok (.goto 64, 3) := by decide +kernel
theorem dX11_netWord_12 : decode cX11_netWord 12 = .ok (.lload_n 1, 1) := by decide +kernel
theorem dX11_netWord_13 : decode cX11_netWord 13 = .ok (.ldc2_w 161, 3) := by decide +kernel
theorem dX11_netWord_16 : decode cX11_netWord 16 = .ok (.lcmp, 1) := by decide +kernel
theorem dX11_netWord_17 : decode cX11_netWord 17 = .ok (.ifCond .ne 7, 3) := by decide +kernel
theorem dX11_netWord_20 : decode cX11_netWord 20 = .ok (.iconst 1, 1) := by decide +kernel
theorem dX11_netWord_21 : decode cX11_netWord 21 = .ok (.goto 52, 3) := by decide +kernel
theorem dX11_netWord_24 : decode cX11_netWord 24 = .ok (.lload_n 1, 1) := by decide +kernel
theorem dX11_netWord_25 : decode cX11_netWord 25 = .ok (.ldc2_w 163, 3) := by decide +kernel
theorem dX11_netWord_28 : decode cX11_netWord 28 = .ok (.lcmp, 1) := by decide +kernel
theorem dX11_netWord_29 : decode cX11_netWord 29 = .ok (.ifCond .ne 7, 3) := by decide +kernel
theorem dX11_netWord_32 : decode cX11_netWord 32 = .ok (.iconst 2, 1) := by decide +kernel
theorem dX11_netWord_33 : decode cX11_netWord 33 = .ok (.goto 40, 3) := by decide +kernel
theorem dX11_netWord_36 : decode cX11_netWord 36 = .ok (.lload_n 1, 1) := by decide +kernel
theorem dX11_netWord_37 : decode cX11_netWord 37 = .ok (.ldc2_w 165, 3) := by decide +kernel
theorem dX11_netWord_40 : decode cX11_netWord 40 = .ok (.lcmp, 1) := by decide +kernel
theorem dX11_netWord_41 : decode cX11_netWord 41 = .ok (.ifCond .ne 7, 3) := by decide +kernel
theorem dX11_netWord_44 : decode cX11_netWord 44 = .ok (.iconst 3, 1) := by decide +kernel
theorem dX11_netWord_45 : decode cX11_netWord 45 = .ok (.goto 28, 3) := by decide +kernel
theorem dX11_netWord_48 : decode cX11_netWord 48 = .ok (.lload_n 1, 1) := by decide +kernel
theorem dX11_netWord_49 : decode cX11_netWord 49 = .ok (.ldc2_w 167, 3) := by decide +kernel
theorem dX11_netWord_52 : decode cX11_netWord 52 = .ok (.lcmp, 1) := by decide +kernel
theorem dX11_netWord_53 : decode cX11_netWord 53 = .ok (.ifCond .ne 7, 3) := by decide +kernel
theorem dX11_netWord_56 : decode cX11_netWord 56 = .ok (.iconst 4, 1) := by decide +kernel
theorem dX11_netWord_57 : decode cX11_netWord 57 = .ok (.goto 16, 3) := by decide +kernel
theorem dX11_netWord_60 : decode cX11_netWord 60 = .ok (.lload_n 1, 1) := by decide +kernel
theorem dX11_netWord_61 : decode cX11_netWord 61 = .ok (.ldc2_w 169, 3) := by decide +kernel
theorem dX11_netWord_64 : decode cX11_netWord 64 = .ok (.lcmp, 1) := by decide +kernel
theorem dX11_netWord_65 : decode cX11_netWord 65 = .ok (.ifCond .ne 7, 3) := by decide +kernel
theorem dX11_netWord_68 : decode cX11_netWord 68 = .ok (.iconst 5, 1) := by decide +kernel
theorem dX11_netWord_69 : decode cX11_netWord 69 = .ok (.goto 4, 3) := by decide +kernel
theorem dX11_netWord_72 : decode cX11_netWord 72 = .ok (.iconst (-1), 1) := by decide +kernel
theorem dX11_netWord_73 : decode cX11_netWord 73 = .ok (.ireturn, 1) := by decide +kernel
theorem q_1537 : Cond.constantLong RX11 159 (zL (1937007984)) ∈ zTB := zmem 1537 (by decide +kernel) rfl
theorem q_1538 : Cond.constantLong RX11 161 (zL (127961880028532)) ∈ zTB := zmem 1538 (by decide +kernel) rfl
theorem q_1539 : Cond.constantLong RX11 163 (zL (495873782388)) ∈ zTB := zmem 1539 (by decide +kernel) rfl
theorem q_1540 : Cond.constantLong RX11 165 (zL (1920298085)) ∈ zTB := zmem 1540 (by decide +kernel) rfl
theorem q_1541 : Cond.constantLong RX11 167 (zL (7629157)) ∈ zTB := zmem 1541 (by decide +kernel) rfl
theorem q_1542 : Cond.constantLong RX11 169 (zL (125780120138340)) ∈ zTB := zmem 1542 (by decide +kernel) rfl
def F_X11_netWord (i : Nat) (X Y : Nat → Int → Int) (R : Nat → Int → Option Nat) (a : Int) : Prop := (∀ i j, rI (X i j)) → (∀ i j, rL (Y i j)) → ((¬ a = (1937007984)) → (((¬ a = (127961880028532)) → (((¬ a = (495873782388)) → (((¬ a = (1920298085)) → (((¬ a = (7629157)) → (((¬ a = (125780120138340)) → ((-1) = mNw (a))) ∧ ((¬ (¬ a = (125780120138340))) → (5 = mNw (a))))) ∧ ((¬ (¬ a = (7629157))) → (4 = mNw (a))))) ∧ ((¬ (¬ a = (1920298085))) → (3 = mNw (a))))) ∧ ((¬ (¬ a = (495873782388))) → (2 = mNw (a))))) ∧ ((¬ (¬ a = (127961880028532))) → (1 = mNw (a))))) ∧ ((¬ (¬ a = (1937007984))) → (0 = mNw (a)))
set_option maxHeartbeats 4000000 in
set_option maxRecDepth 100000 in
theorem w_X11_netWord {l : Launch} {D : va_G} {cy : Nat → ClassId} {bs N : Nat} {sa : Nat → Nat} {kd len : Nat → Nat} {X Y : Nat → Int → Int} {R : Nat → Int → Option Nat} {i : Nat} (hM : zM N kd len R i) (a : Int) (ha : rL a) (hF : F_X11_netWord i X Y R a) : Met l yX11_netWord (.code yX11_netWord cX11_netWord 3 (some .int) :: zTB) (zRm 0 0) (zPc D cy bs sa N kd len X Y R [.ref (bs + (i)), .long (zL (a))]) (zQi D cy bs N kd len (fun r st => r = mNw (a) ∧ st = (X, Y, R))) 0 0 (zA bs) := by
  refine zstart (by decide) (Nat.le_of_ble_eq_true rfl) ?_
  intro p e s m args below meth c ls C hE hH hr hlk hnm hl hargs
  have hF := hF hH.2.2.1 hH.2.2.2
  have hS : va_S (zA bs) s.heap s.heap [] := va_S.rf
  have hl : lv_has ls 3 [(0, .ref (bs + (i))), (1, .long (zL (a)))] := hl
  refine lv_lload_n C.1 C.2.1 dX11_netWord_0 rfl (lv_at hl 1 rfl) ?_
  refine lv_ldc2 (v := zL (1937007984)) C.1 C.2.1 C.2.2.2.1 (C.2.2.2.2.1 _ q_1537) dX11_netWord_1 ?_
  refine zd_lcmp C ha (by decide) dX11_netWord_4 ?_
  refine zd_ifL_ne C 12 dX11_netWord_5 (by decide) (fun c1 => ?_) (fun c1 => ?_)
  · have hF := hF.1 c1
    refine lv_lload_n C.1 C.2.1 dX11_netWord_12 rfl (lv_at hl 1 rfl) ?_
    refine lv_ldc2 (v := zL (127961880028532)) C.1 C.2.1 C.2.2.2.1 (C.2.2.2.2.1 _ q_1538) dX11_netWord_13 ?_
    refine zd_lcmp C ha (by decide) dX11_netWord_16 ?_
    refine zd_ifL_ne C 24 dX11_netWord_17 (by decide) (fun c2 => ?_) (fun c2 => ?_)
    · have hF := hF.1 c2
      refine lv_lload_n C.1 C.2.1 dX11_netWord_24 rfl (lv_at hl 1 rfl) ?_
      refine lv_ldc2 (v := zL (495873782388)) C.1 C.2.1 C.2.2.2.1 (C.2.2.2.2.1 _ q_1539) dX11_netWord_25 ?_
      refine zd_lcmp C ha (by decide) dX11_netWord_28 ?_
      refine zd_ifL_ne C 36 dX11_netWord_29 (by decide) (fun c3 => ?_) (fun c3 => ?_)
      · have hF := hF.1 c3
        refine lv_lload_n C.1 C.2.1 dX11_netWord_36 rfl (lv_at hl 1 rfl) ?_
        refine lv_ldc2 (v := zL (1920298085)) C.1 C.2.1 C.2.2.2.1 (C.2.2.2.2.1 _ q_1540) dX11_netWord_37 ?_
        refine zd_lcmp C ha (by decide) dX11_netWord_40 ?_
        refine zd_ifL_ne C 48 dX11_netWord_41 (by decide) (fun c4 => ?_) (fun c4 => ?_)
        · have hF := hF.1 c4
          refine lv_lload_n C.1 C.2.1 dX11_netWord_48 rfl (lv_at hl 1 rfl) ?_
          refine lv_ldc2 (v := zL (7629157)) C.1 C.2.1 C.2.2.2.1 (C.2.2.2.2.1 _ q_1541) dX11_netWord_49 ?_
          refine zd_lcmp C ha (by decide) dX11_netWord_52 ?_
          refine zd_ifL_ne C 60 dX11_netWord_53 (by decide) (fun c5 => ?_) (fun c5 => ?_)
          · have hF := hF.1 c5
            refine lv_lload_n C.1 C.2.1 dX11_netWord_60 rfl (lv_at hl 1 rfl) ?_
            refine lv_ldc2 (v := zL (125780120138340)) C.1 C.2.1 C.2.2.2.1 (C.2.2.2.2.1 _ q_1542) dX11_netWord_61 ?_
            refine zd_lcmp C ha (by decide) dX11_netWord_64 ?_
            refine zd_ifL_ne C 72 dX11_netWord_65 (by decide) (fun c6 => ?_) (fun c6 => ?_)
            · have hF := hF.1 c6
              refine zd_iconst C dX11_netWord_72 ?_
              exact zd_iret C hr hlk hH hS (by decide) (⟨hF, rfl⟩) dX11_netWord_73
            · have hF := hF.2 c6
              refine zd_iconst C dX11_netWord_68 ?_
              refine lv_goto (tgt := 73) C.1 C.2.1 dX11_netWord_69 (by decide) ?_
              exact zd_iret C hr hlk hH hS (by decide) (⟨hF, rfl⟩) dX11_netWord_73
          · have hF := hF.2 c5
            refine zd_iconst C dX11_netWord_56 ?_
            refine lv_goto (tgt := 73) C.1 C.2.1 dX11_netWord_57 (by decide) ?_
            exact zd_iret C hr hlk hH hS (by decide) (⟨hF, rfl⟩) dX11_netWord_73
        · have hF := hF.2 c4
          refine zd_iconst C dX11_netWord_44 ?_
          refine lv_goto (tgt := 73) C.1 C.2.1 dX11_netWord_45 (by decide) ?_
          exact zd_iret C hr hlk hH hS (by decide) (⟨hF, rfl⟩) dX11_netWord_73
      · have hF := hF.2 c3
        refine zd_iconst C dX11_netWord_32 ?_
        refine lv_goto (tgt := 73) C.1 C.2.1 dX11_netWord_33 (by decide) ?_
        exact zd_iret C hr hlk hH hS (by decide) (⟨hF, rfl⟩) dX11_netWord_73
    · have hF := hF.2 c2
      refine zd_iconst C dX11_netWord_20 ?_
      refine lv_goto (tgt := 73) C.1 C.2.1 dX11_netWord_21 (by decide) ?_
      exact zd_iret C hr hlk hH hS (by decide) (⟨hF, rfl⟩) dX11_netWord_73
  · have hF := hF.2 c1
    refine zd_iconst C dX11_netWord_8 ?_
    refine lv_goto (tgt := 73) C.1 C.2.1 dX11_netWord_9 (by decide) ?_
    exact zd_iret C hr hlk hH hS (by decide) (⟨hF, rfl⟩) dX11_netWord_73
theorem v_X11_netWord {X Y : Nat → Int → Int} {R : Nat → Int → Option Nat} {i : Nat} (a : Int) (ha : rL a) : F_X11_netWord i X Y R a := by
  unfold F_X11_netWord
  intro hX hY
  unfold mNw
  refine ⟨?_, ?_⟩
  · intro c1
    refine ⟨?_, ?_⟩
    · intro c2
      refine ⟨?_, ?_⟩
      · intro c3
        refine ⟨?_, ?_⟩
        · intro c4
          refine ⟨?_, ?_⟩
          · intro c5
            refine ⟨?_, ?_⟩
            · intro c6
              rw [if_neg c1, if_neg c2, if_neg c3, if_neg c4, if_neg c5, if_neg c6]
            intro c7
            rw [if_neg c1, if_neg c2, if_neg c3, if_neg c4, if_neg c5, if_pos (Classical.not_not.mp c7)]
          intro c8
          rw [if_neg c1, if_neg c2, if_neg c3, if_neg c4, if_pos (Classical.not_not.mp c8)]
        intro c9
        rw [if_neg c1, if_neg c2, if_neg c3, if_pos (Classical.not_not.mp c9)]
      intro c10
      rw [if_neg c1, if_neg c2, if_pos (Classical.not_not.mp c10)]
    intro c11
    rw [if_neg c1, if_pos (Classical.not_not.mp c11)]
  intro c12
  rw [if_pos (Classical.not_not.mp c12)]
theorem c_X11_netWord {l : Launch} {D : va_G} {cy : Nat → ClassId} {bs N : Nat} {sa : Nat → Nat} {kd len : Nat → Nat} {X Y : Nat → Int → Int} {R : Nat → Int → Option Nat} {i : Nat} (hM : zM N kd len R i) (a : Int) (ha : rL a) : Met l yX11_netWord (.code yX11_netWord cX11_netWord 3 (some .int) :: zTB) (zRm 0 0) (zPc D cy bs sa N kd len X Y R [.ref (bs + (i)), .long (zL (a))]) (zQi D cy bs N kd len (fun r st => r = mNw (a) ∧ st = (X, Y, R))) 0 0 (zA bs) := w_X11_netWord hM a ha (v_X11_netWord a ha)
abbrev cX11_netLine : ByteArray := prog_13_method_22_code
def yX11_netLine : MethodName := ⟨RX11, "netLine", "(JI)Z"⟩
theorem dX11_netLine_0 : decode cX11_netLine 0 = .ok (.aload_n 0, 1) := by decide +kernel
theorem dX11_netLine_1 : decode cX11_netLine 1 = .ok (.lload_n 1, 1) := by decide +kernel
theorem dX11_netLine_2 : decode cX11_netLine 2 = .ok (.invokevirtual 171, 3) := by decide +kernel
theorem dX11_netLine_5 : decode cX11_netLine 5 = .ok (.istore 4, 2) := by decide +kernel
theorem dX11_netLine_7 : decode cX11_netLine 7 = .ok (.lload_n 1, 1) := by decide +kernel
theorem dX11_netLine_8 : decode cX11_netLine 8 = .ok (.ldc2_w 175, 3) := by decide +kernel
theorem dX11_netLine_11 : decode cX11_netLine 11 = .ok (.lcmp, 1) := by decide +kernel
theorem dX11_netLine_12 : decode cX11_netLine 12 = .ok (.ifCond .ne 85, 3) := by decide +kernel
theorem dX11_netLine_15 : decode cX11_netLine 15 = .ok (.aload_n 0, 1) := by decide +kernel
theorem dX11_netLine_16 : decode cX11_netLine 16 = .ok (.bipush 6, 2) := by decide +kernel
theorem dX11_netLine_18 : decode cX11_netLine 18 = .ok (.bipush 6, 2) := by decide +kernel
theorem dX11_netLine_20 : decode cX11_netLine 20 = .ok (.iload_n 3, 1) := by decide +kernel
theorem dX11_netLine_21 : decode cX11_netLine 21 = .ok (.invokevirtual 177, 3) := by decide +kernel
theorem dX11_netLine_24 : decode cX11_netLine 24 = .ok (.aload_n 0, 1) := by decide +kernel
theorem dX11_netLine_25 : decode cX11_netLine 25 = .ok (.invokevirtual 152, 3) := by decide +kernel
theorem dX11_netLine_28 : decode cX11_netLine 28 = .ok (.aload_n 0, 1) := by decide +kernel
theorem dX11_netLine_29 : decode cX11_netLine 29 = .ok (.iconst 0, 1) := by decide +kernel
theorem dX11_netLine_30 : decode cX11_netLine 30 = .ok (.iconst 0, 1) := by decide +kernel
theorem dX11_netLine_31 : decode cX11_netLine 31 = .ok (.bipush 99, 2) := by decide +kernel
theorem dX11_netLine_33 : decode cX11_netLine 33 = .ok (.invokevirtual 181, 3) := by decide +kernel
theorem dX11_netLine_36 : decode cX11_netLine 36 = .ok (.ifCond .ne 5, 3) := by decide +kernel
theorem dX11_netLine_39 : decode cX11_netLine 39 = .ok (.iconst 0, 1) := by decide +kernel
theorem dX11_netLine_40 : decode cX11_netLine 40 = .ok (.ireturn, 1) := by decide +kernel
theorem dX11_netLine_41 : decode cX11_netLine 41 = .ok (.aload_n 0, 1) := by decide +kernel
theorem dX11_netLine_42 : decode cX11_netLine 42 = .ok (.getfield 41, 3) := by decide +kernel
theorem dX11_netLine_45 : decode cX11_netLine 45 = .ok (.bipush 6, 2) := by decide +kernel
theorem dX11_netLine_47 : decode cX11_netLine 47 = .ok (.iaload, 1) := by decide +kernel
theorem dX11_netLine_48 : decode cX11_netLine 48 = .ok (.bipush 6, 2) := by decide +kernel
theorem dX11_netLine_50 : decode cX11_netLine 50 = .ok (.if_icmp .ge 24, 3) := by decide +kernel
theorem dX11_netLine_53 : decode cX11_netLine 53 = .ok (.aload_n 0, 1) := by decide +kernel
theorem dX11_netLine_54 : decode cX11_netLine 54 = .ok (.getfield 41, 3) := by decide +kernel
theorem dX11_netLine_57 : decode cX11_netLine 57 = .ok (.bipush 7, 2) := by decide +kernel
theorem dX11_netLine_59 : decode cX11_netLine 59 = .ok (.aload_n 0, 1) := by decide +kernel
theorem dX11_netLine_60 : decode cX11_netLine 60 = .ok (.getfield 41, 3) := by decide +kernel
theorem dX11_netLine_63 : decode cX11_netLine 63 = .ok (.bipush 6, 2) := by decide +kernel
theorem dX11_netLine_65 : decode cX11_netLine 65 = .ok (.iaload, 1) := by decide +kernel
theorem dX11_netLine_66 : decode cX11_netLine 66 = .ok (.iadd, 1) := by decide +kernel
theorem dX11_netLine_67 : decode cX11_netLine 67 = .ok (.aload_n 0, 1) := by decide +kernel
theorem dX11_netLine_68 : decode cX11_netLine 68 = .ok (.getfield 44, 3) := by decide +kernel
theorem dX11_netLine_71 : decode cX11_netLine 71 = .ok (.iconst 0, 1) := by decide +kernel
theorem dX11_netLine_72 : decode cX11_netLine 72 = .ok (.iaload, 1) := by decide +kernel
theorem dX11_netLine_73 : decode cX11_netLine 73 = .ok (.iastore, 1) := by decide +kernel
theorem dX11_netLine_74 : decode cX11_netLine 74 = .ok (.aload_n 0, 1) := by decide +kernel
theorem dX11_netLine_75 : decode cX11_netLine 75 = .ok (.getfield 41, 3) := by decide +kernel
theorem dX11_netLine_78 : decode cX11_netLine 78 = .ok (.bipush 6, 2) := by decide +kernel
theorem dX11_netLine_80 : decode cX11_netLine 80 = .ok (.bipush 6, 2) := by decide +kernel
theorem dX11_netLine_82 : decode cX11_netLine 82 = .ok (.aload_n 0, 1) := by decide +kernel
theorem dX11_netLine_83 : decode cX11_netLine 83 = .ok (.getfield 41, 3) := by decide +kernel
theorem dX11_netLine_86 : decode cX11_netLine 86 = .ok (.bipush 6, 2) := by decide +kernel
theorem dX11_netLine_88 : decode cX11_netLine 88 = .ok (.iaload, 1) := by decide +kernel
theorem dX11_netLine_89 : decode cX11_netLine 89 = .ok (.iconst 1, 1) := by decide +kernel
theorem dX11_netLine_90 : decode cX11_netLine 90 = .ok (.iadd, 1) := by decide +kernel
theorem dX11_netLine_91 : decode cX11_netLine 91 = .ok (.invokestatic 184, 3) := by decide +kernel
theorem dX11_netLine_94 : decode cX11_netLine 94 = .ok (.iastore, 1) := by decide +kernel
theorem dX11_netLine_95 : decode cX11_netLine 95 = .ok (.iconst 1, 1) := by decide +kernel
theorem dX11_netLine_96 : decode cX11_netLine 96 = .ok (.ireturn, 1) := by decide +kernel
theorem dX11_netLine_97 : decode cX11_netLine 97 = .ok (.iload 4, 2) := by decide +kernel
theorem dX11_netLine_99 : decode cX11_netLine 99 = .ok (.iconst (-1), 1) := by decide +kernel
theorem dX11_netLine_100 : decode cX11_netLine 100 = .ok (.if_icmp .ne 8, 3) := by decide +kernel
theorem dX11_netLine_103 : decode cX11_netLine 103 = .ok (.aload_n 0, 1) := by decide +kernel
theorem dX11_netLine_104 : decode cX11_netLine 104 = .ok (.invokevirtual 140, 3) := by decide +kernel
theorem dX11_netLine_107 : decode cX11_netLine 107 = .ok (.ireturn, 1) := by decide +kernel
theorem dX11_netLine_108 : decode cX11_netLine 108 = .ok (.aload_n 0, 1) := by decide +kernel
theorem dX11_netLine_109 : decode cX11_netLine 109 = .ok (.invokevirtual 152, 3) := by decide +kernel
theorem dX11_netLine_112 : decode cX11_netLine 112 = .ok (.iload 4, 2) := by decide +kernel
theorem dX11_netLine_114 : decode cX11_netLine 114 = .ok (.iconst 3, 1) := by decide +kernel
theorem dX11_netLine_115 : decode cX11_netLine 115 = .ok (.if_icmp .ge 7, 3) := by decide +kernel
theorem dX11_netLine_118 : decode cX11_netLine 118 = .ok (.iconst 1, 1) := by decide +kernel
theorem dX11_netLine_119 : decode cX11_netLine 119 = .ok (.goto 4, 3) := by decide +kernel
theorem dX11_netLine_122 : decode cX11_netLine 122 = .ok (.iconst 0, 1) := by decide +kernel
theorem dX11_netLine_123 : decode cX11_netLine 123 = .ok (.istore 5, 2) := by decide +kernel
theorem dX11_netLine_125 : decode cX11_netLine 125 = .ok (.iload 4, 2) := by decide +kernel
theorem dX11_netLine_127 : decode cX11_netLine 127 = .ok (.ifCond .ne 8, 3) := by decide +kernel
theorem dX11_netLine_130 : decode cX11_netLine 130 = .ok (.bipush 9, 2) := by decide +kernel
theorem dX11_netLine_132 : decode cX11_netLine 132 = .ok (.goto 21, 3) := by decide +kernel
theorem dX11_netLine_135 : decode cX11_netLine 135 = .ok (.iload 4, 2) := by decide +kernel
theorem dX11_netLine_137 : decode cX11_netLine 137 = .ok (.iconst 3, 1) := by decide +kernel
theorem dX11_netLine_138 : decode cX11_netLine 138 = .ok (.if_icmp .eq 9, 3) := by decide +kernel
theorem dX11_netLine_141 : decode cX11_netLine 141 = .ok (.iload 4, 2) := by decide +kernel
theorem dX11_netLine_143 : decode cX11_netLine 143 = .ok (.iconst 4, 1) := by decide +kernel
theorem dX11_netLine_144 : decode cX11_netLine 144 = .ok (.if_icmp .ne 7, 3) := by decide +kernel
theorem dX11_netLine_147 : decode cX11_netLine 147 = .ok (.iconst 1, 1) := by decide +kernel
theorem dX11_netLine_148 : decode cX11_netLine 148 = .ok (.goto 5, 3) := by decide +kernel
theorem dX11_netLine_151 : decode cX11_netLine 151 = .ok (.bipush 99, 2) := by decide +kernel
theorem dX11_netLine_153 : decode cX11_netLine 153 = .ok (.istore 6, 2) := by decide +kernel
theorem dX11_netLine_155 : decode cX11_netLine 155 = .ok (.aload_n 0, 1) := by decide +kernel
theorem dX11_netLine_156 : decode cX11_netLine 156 = .ok (.iconst 0, 1) := by decide +kernel
theorem dX11_netLine_157 : decode cX11_netLine 157 = .ok (.iload 5, 2) := by decide +kernel
theorem dX11_netLine_159 : decode cX11_netLine 159 = .ok (.iload 6, 2) := by decide +kernel
theorem dX11_netLine_161 : decode cX11_netLine 161 = .ok (.invokevirtual 181, 3) := by decide +kernel
theorem dX11_netLine_164 : decode cX11_netLine 164 = .ok (.ifCond .ne 5, 3) := by decide +kernel
theorem dX11_netLine_167 : decode cX11_netLine 167 = .ok (.iconst 0, 1) := by decide +kernel
theorem dX11_netLine_168 : decode cX11_netLine 168 = .ok (.ireturn, 1) := by decide +kernel
theorem dX11_netLine_169 : decode cX11_netLine 169 = .ok (.aload_n 0, 1) := by decide +kernel
theorem dX11_netLine_170 : decode cX11_netLine 170 = .ok (.getfield 41, 3) := by decide +kernel
theorem dX11_netLine_173 : decode cX11_netLine 173 = .ok (.iload 4, 2) := by decide +kernel
theorem dX11_netLine_175 : decode cX11_netLine 175 = .ok (.aload_n 0, 1) := by decide +kernel
theorem dX11_netLine_176 : decode cX11_netLine 176 = .ok (.getfield 148, 3) := by decide +kernel
theorem dX11_netLine_179 : decode cX11_netLine 179 = .ok (.ifCond .eq 12, 3) := by decide +kernel
theorem dX11_netLine_182 : decode cX11_netLine 182 = .ok (.aload_n 0, 1) := by decide +kernel
theorem dX11_netLine_183 : decode cX11_netLine 183 = .ok (.getfield 44, 3) := by decide +kernel
theorem dX11_netLine_186 : decode cX11_netLine 186 = .ok (.iconst 0, 1) := by decide +kernel
theorem dX11_netLine_187 : decode cX11_netLine 187 = .ok (.iaload, 1) := by decide +kernel
theorem dX11_netLine_188 : decode cX11_netLine 188 = .ok (.goto 10, 3) := by decide +kernel
theorem dX11_netLine_191 : decode cX11_netLine 191 = .ok (.aload_n 0, 1) := by decide +kernel
theorem dX11_netLine_192 : decode cX11_netLine 192 = .ok (.getfield 41, 3) := by decide +kernel
theorem dX11_netLine_195 : decode cX11_netLine 195 = .ok (.iload 4, 2) := by decide +kernel
theorem dX11_netLine_197 : decode cX11_netLine 197 = .ok (.iaload, 1) := by decide +kernel
theorem dX11_netLine_198 : decode cX11_netLine 198 = .ok (.iastore, 1) := by decide +kernel
theorem dX11_netLine_199 : decode cX11_netLine 199 = .ok (.iconst 1, 1) := by decide +kernel
theorem dX11_netLine_200 : decode cX11_netLine 200 = .ok (.ireturn, 1) := by decide +kernel
theorem q_1533 : Cond.methodLink RX11 171 yX11_netWord ∈ zTB := zmem 1533 (by decide +kernel) rfl
theorem q_1535 : Cond.instanceMethod yX11_netWord ∈ zTB := zmem 1535 (by decide +kernel) rfl
theorem q_41 : Cond.selects RX11 yX11_netWord yX11_netWord ∈ zTB := zmem 41 (by decide +kernel) rfl
theorem q_1536 : Cond.code yX11_netWord cX11_netWord 3 (some .int) ∈ zTB := zmem 1536 (by decide +kernel) rfl
theorem k_RX11_171 : zLv RX11 171 RX11 yX11_netWord cX11_netWord 3 (some .int) 1 := ⟨⟨q_1533, q_1535, q_41, q_140, q_1536⟩, rfl, ⟨by decide, by decide⟩, by decide +kernel⟩
theorem q_1543 : Cond.constantLong RX11 175 (zL (27412351463812724)) ∈ zTB := zmem 1543 (by decide +kernel) rfl
theorem q_1552 : Cond.methodLink RX11 181 yX11_take ∈ zTB := zmem 1552 (by decide +kernel) rfl
theorem q_1554 : Cond.instanceMethod yX11_take ∈ zTB := zmem 1554 (by decide +kernel) rfl
theorem q_44 : Cond.selects RX11 yX11_take yX11_take ∈ zTB := zmem 44 (by decide +kernel) rfl
theorem q_1555 : Cond.code yX11_take cX11_take 4 (some .boolean) ∈ zTB := zmem 1555 (by decide +kernel) rfl
theorem k_RX11_181 : zLv RX11 181 RX11 yX11_take cX11_take 4 (some .boolean) 3 := ⟨⟨q_1552, q_1554, q_44, q_140, q_1555⟩, rfl, ⟨by decide, by decide⟩, by decide +kernel⟩
theorem q_1544 : Cond.methodLink RX11 177 yX11_full ∈ zTB := zmem 1544 (by decide +kernel) rfl
theorem q_1546 : Cond.instanceMethod yX11_full ∈ zTB := zmem 1546 (by decide +kernel) rfl
theorem q_42 : Cond.selects RX11 yX11_full yX11_full ∈ zTB := zmem 42 (by decide +kernel) rfl
theorem q_1547 : Cond.code yX11_full cX11_full 4 none ∈ zTB := zmem 1547 (by decide +kernel) rfl
theorem k_RX11_177 : zLv RX11 177 RX11 yX11_full cX11_full 4 none 3 := ⟨⟨q_1544, q_1546, q_42, q_140, q_1547⟩, rfl, ⟨by decide, by decide⟩, by decide +kernel⟩
def F_X11_netLine (i : Nat) (X Y : Nat → Int → Int) (R : Nat → Int → Option Nat) (a : Int) (b : Int) : Prop := (∀ i j, rI (X i j)) → (∀ i j, rL (Y i j)) → rI (mNw (a)) → (((¬ a = (27412351463812724)) → (((¬ (mNw (a)) = (-1)) → ((oRd X i) ∧ (∀ X5 : Nat → Int → Int, (∀ i j, rI (X5 i j)) → ∀ Y6 : Nat → Int → Int, (∀ i j, rL (Y6 i j)) → (tkC X (X5) Y (Y6) i ∧ (X5) i 11 = tkN (X (i + 1)) (X i 12).toNat (X i 11).toNat ∧ (X5) i 13 = tkB (X (i + 1)) (X i 12).toNat (X i 11).toNat ∧ (X5) i 14 = tkS (X (i + 1)) (X i 12).toNat (X i 11).toNat ∧ ((X5) i 14 = 3 → (X5) i 15 = tkV (X (i + 1)) (X i 12).toNat (X i 11).toNat) ∧ ((X5) i 14 = 2 → (Y6) i 16 = tkW (X (i + 1)) (X i 12).toNat (X i 11).toNat)) → ((∀ (lo : Int), rI lo → (lo = if mNw a < 3 then 1 else 0) → ((∀ (hi : Int), rI hi → (hi = if mNw a = 0 then 9 else if mNw a = 3 ∨ mNw a = 4 then 1 else 99) → ((oRd X5 i ∧ 0 ≤ (0 : Int) ∧ (0 : Int) < 4) ∧ (∀ r10 : Bool, ∀ X8 : Nat → Int → Int, (∀ i j, rI (X8 i j)) → ∀ Y9 : Nat → Int → Int, (∀ i j, rL (Y9 i j)) → (r10 = decide (X5 i 14 = 3) ∧ (r10 = false → (X8) = zU X5 i 17 (X5 i 13) ∧ (Y9) = Y6) ∧ (r10 = true → tkC (tbX X5 i ((0 : Int)) (lo) (hi) (-1)) (X8) Y6 (Y9) i ∧ tkAt (X8) (Y9) i (X5 i 11).toNat ∧ oRd (X8) i)) → (((r10 = true) → ((∀ (X12 : Nat → Int → Int), (∀ i j, rI (X12 i j)) → (X12 = zU X8 (i + 11) (mNw a) (if X8 i 22 = 0 then X8 (i + 11) (mNw a) else X8 (i + 12) 0)) → (lnP 0 (a) (b) X (X12) Y (Y9) i true)) ∧ ((((X8 (i) 22) = 0) → ((0 ≤ (mNw (a)) ∧ (mNw (a)) < 183) ∧ ((0 ≤ (mNw (a)) ∧ (mNw (a)) < 183) ∧ (∀ X16 : Nat → Int → Int, X16 = zU X8 (i + 11) (mNw (a)) (X8 (i + 11) (mNw (a))) → (∀ i j, rI (X16 i j)) → (X16 = zU X8 (i + 11) (mNw a) (if X8 i 22 = 0 then X8 (i + 11) (mNw a) else X8 (i + 12) 0)))))) ∧ ((¬ ((X8 (i) 22) = 0)) → ((0 ≤ (mNw (a)) ∧ (mNw (a)) < 183) ∧ (∀ X18 : Nat → Int → Int, X18 = zU X8 (i + 11) (mNw (a)) (X8 (i + 12) (0)) → (∀ i j, rI (X18 i j)) → (X18 = zU X8 (i + 11) (mNw a) (if X8 i 22 = 0 then X8 (i + 11) (mNw a) else X8 (i + 12) 0)))))))) ∧ ((r10 = false) → (lnP 0 (a) (b) X (X8) Y (Y9) i false)))))) ∧ (((¬ (mNw (a)) = 0) → ((((mNw (a)) = 3) → ((1 : Int) = if mNw a = 0 then 9 else if mNw a = 3 ∨ mNw a = 4 then 1 else 99)) ∧ ((¬ ((mNw (a)) = 3)) → (((¬ (mNw (a)) = 4) → ((99 : Int) = if mNw a = 0 then 9 else if mNw a = 3 ∨ mNw a = 4 then 1 else 99)) ∧ ((¬ (¬ (mNw (a)) = 4)) → ((1 : Int) = if mNw a = 0 then 9 else if mNw a = 3 ∨ mNw a = 4 then 1 else 99)))))) ∧ ((¬ (¬ (mNw (a)) = 0)) → ((9 : Int) = if mNw a = 0 then 9 else if mNw a = 3 ∨ mNw a = 4 then 1 else 99))))) ∧ (((3 ≤ (mNw (a))) → ((0 : Int) = if mNw a < 3 then 1 else 0)) ∧ ((¬ (3 ≤ (mNw (a)))) → ((1 : Int) = if mNw a < 3 then 1 else 0))))))) ∧ ((¬ (¬ (mNw (a)) = (-1))) → (∀ r24 : Bool, ∀ X23 : Nat → Int → Int, (∀ i j, rI (X23 i j)) → (r24 = false ∧ (X23) = zU X i 17 (X i 13)) → (lnP 0 (a) (b) X (X23) Y (Y) i r24))))) ∧ ((¬ (¬ a = (27412351463812724))) → ((0 ≤ (6 : Int) ∧ (6 : Int) < 183) ∧ (∀ X26 : Nat → Int → Int, (∀ i j, rI (X26 i j)) → ((X26) = if (6 : Int) ≤ X (i + 11) ((6 : Int)) then adF X i 3 (b) else X) → ((oRd X26 i) ∧ (∀ X28 : Nat → Int → Int, (∀ i j, rI (X28 i j)) → ∀ Y29 : Nat → Int → Int, (∀ i j, rL (Y29 i j)) → (tkC X26 (X28) Y (Y29) i ∧ (X28) i 11 = tkN (X26 (i + 1)) (X26 i 12).toNat (X26 i 11).toNat ∧ (X28) i 13 = tkB (X26 (i + 1)) (X26 i 12).toNat (X26 i 11).toNat ∧ (X28) i 14 = tkS (X26 (i + 1)) (X26 i 12).toNat (X26 i 11).toNat ∧ ((X28) i 14 = 3 → (X28) i 15 = tkV (X26 (i + 1)) (X26 i 12).toNat (X26 i 11).toNat) ∧ ((X28) i 14 = 2 → (Y29) i 16 = tkW (X26 (i + 1)) (X26 i 12).toNat (X26 i 11).toNat)) → ((oRd X28 i ∧ 0 ≤ (0 : Int) ∧ (0 : Int) < 4) ∧ (∀ r33 : Bool, ∀ X31 : Nat → Int → Int, (∀ i j, rI (X31 i j)) → ∀ Y32 : Nat → Int → Int, (∀ i j, rL (Y32 i j)) → (r33 = decide (X28 i 14 = 3) ∧ (r33 = false → (X31) = zU X28 i 17 (X28 i 13) ∧ (Y32) = Y29) ∧ (r33 = true → tkC (tbX X28 i ((0 : Int)) ((0 : Int)) ((99 : Int)) (-1)) (X31) Y29 (Y32) i ∧ tkAt (X31) (Y32) i (X28 i 11).toNat ∧ oRd (X31) i)) → (((r33 = true) → ((∀ (X35 : Nat → Int → Int), (∀ i j, rI (X35 i j)) → (X35 = if X31 (i + 11) 6 < 6 then zU X31 (i + 11) (7 + X31 (i + 11) 6) (X31 (i + 12) 0) else X31) → ((rI ((X35 (i + 11) (6)) + 1)) ∧ (rI (min ((6 : Int)) ((X35 (i + 11) (6)) + 1)) → (∀ X38 : Nat → Int → Int, X38 = zU X35 (i + 11) (6) (min ((6 : Int)) ((X35 (i + 11) (6)) + 1)) → (∀ i j, rI (X38 i j)) → (lnP 0 (a) (b) X (X38) Y (Y32) i true))))) ∧ (((6 ≤ (X31 (i + 11) (6))) → (X31 = if X31 (i + 11) 6 < 6 then zU X31 (i + 11) (7 + X31 (i + 11) 6) (X31 (i + 12) 0) else X31)) ∧ ((¬ (6 ≤ (X31 (i + 11) (6)))) → ((0 ≤ (7 + (X31 (i + 11) (6))) ∧ (7 + (X31 (i + 11) (6))) < 183) ∧ (∀ X41 : Nat → Int → Int, X41 = zU X31 (i + 11) (7 + (X31 (i + 11) (6))) (X31 (i + 12) (0)) → (∀ i j, rI (X41 i j)) → (X41 = if X31 (i + 11) 6 < 6 then zU X31 (i + 11) (7 + X31 (i + 11) 6) (X31 (i + 12) 0) else X31))))))) ∧ ((r33 = false) → (lnP 0 (a) (b) X (X31) Y (Y32) i false)))))))))))
set_option maxHeartbeats 4000000 in
set_option maxRecDepth 100000 in
theorem w_X11_netLine {l : Launch} {D : va_G} {cy : Nat → ClassId} {bs N : Nat} {sa : Nat → Nat} {kd len : Nat → Nat} {X Y : Nat → Int → Int} {R : Nat → Int → Option Nat} {i : Nat} (hM : zM N kd len R i) (a : Int) (ha : rL a) (b : Int) (hb : rI b) (hF : F_X11_netLine i X Y R a b) : Met l yX11_netLine (.code yX11_netLine cX11_netLine 7 (some .boolean) :: zTB) (zRm 4 91) (zPc D cy bs sa N kd len X Y R [.ref (bs + (i)), .long (zL (a)), .int (zI (b))]) (zQi D cy bs N kd len (fun r st => st.2.2 = R ∧ ∃ rb : Bool, r = bz rb ∧ (lnP 0 (a) (b) X (st.1) Y (st.2.1) i rb))) 0 0 (zA bs) := by
  refine zstart (by decide) (Nat.le_of_ble_eq_true rfl) ?_
  intro p e s m args below meth c ls C hE hH hr hlk hnm hl hargs
  have hF := hF hH.2.2.1 hH.2.2.2
  have hS : va_S (zA bs) s.heap s.heap [] := va_S.rf
  have hl : lv_has ls 7 [(0, .ref (bs + (i))), (1, .long (zL (a))), (3, .int (zI (b)))] := hl
  refine lv_aload_n C.1 C.2.1 dX11_netLine_0 rfl (lv_at hl 0 rfl) ?_
  refine lv_lload_n C.1 C.2.1 dX11_netLine_1 rfl (lv_at hl 1 rfl) ?_
  refine zgoi (zrunV (As := [.long (zL (a))]) (rest := []) C hE hH hS hl.1 (c_X11_netWord (l := l) hM (a) ha) k_RX11_171 ⟨Nat.le_of_ble_eq_true rfl, Nat.le_of_ble_eq_true rfl⟩ (zM_n0 hM) (zM_k0 hM) rfl rfl rfl (Nat.le_of_ble_eq_true rfl) dX11_netLine_2 ⟨Nat.zero_le _, Nat.zero_le _⟩) hS (fun rq Xq Yq Rq H locs hrq hq hH hS => ?_)
  obtain ⟨h91, h92⟩ := hq
  have h93 : Xq = X := congrArg (fun z => z.1) h92
  have h94 : Yq = Y := congrArg (fun z => z.2.1) h92
  have h95 : Rq = R := congrArg (fun z => z.2.2) h92
  rw [h93, h94, h95] at hH
  subst h91
  have hr1 := hrq
  have hF := hF hr1
  refine lv_istore (lv' := [(4, .int (zI (mNw (a)))), (0, .ref (bs + (i))), (1, .long (zL (a))), (3, .int (zI (b)))]) C.1 C.2.1 dX11_netLine_5 hl (by decide) rfl (fun ls hl => ?_)
  refine lv_lload_n C.1 C.2.1 dX11_netLine_7 rfl (lv_at hl 2 rfl) ?_
  refine lv_ldc2 (v := zL (27412351463812724)) C.1 C.2.1 C.2.2.2.1 (C.2.2.2.2.1 _ q_1543) dX11_netLine_8 ?_
  refine zd_lcmp C ha (by decide) dX11_netLine_11 ?_
  refine zd_ifL_ne C 97 dX11_netLine_12 (by decide) (fun c2 => ?_) (fun c2 => ?_)
  · have hF := hF.1 c2
    refine lv_iload C.1 C.2.1 dX11_netLine_97 (lv_at hl 0 rfl) ?_
    refine zd_iconst C dX11_netLine_99 ?_
    refine zd_icmp_ne C hr1 (by decide) 108 dX11_netLine_100 (by decide) (fun c3 => ?_) (fun c3 => ?_)
    · have hF := hF.1 c3
      refine lv_aload_n C.1 C.2.1 dX11_netLine_108 rfl (lv_at hl 1 rfl) ?_
      obtain ⟨o4, hF⟩ := hF
      refine zgov (zrunV (As := []) (rest := []) C hE hH hS hl.1 (c_X11_token (l := l) hM  o4) k_RX11_152 ⟨Nat.le_of_ble_eq_true rfl, Nat.le_of_ble_eq_true rfl⟩ (zM_n0 hM) (zM_k0 hM) rfl rfl rfl (Nat.le_of_ble_eq_true rfl) dX11_netLine_109 ⟨Nat.zero_le _, Nat.zero_le _⟩) hS (fun X5 Y6 Rq H locs hq hH hS => ?_)
      obtain ⟨h9R, hq⟩ := hq
      dsimp only at h9R
      rw [h9R] at hH
      have hF := hF X5 hH.2.2.1 Y6 hH.2.2.2 hq
      have J1 : ∀ (lo : Int), rI lo → (lo = if mNw a < 3 then 1 else 0) → ∀ (H : Heap) (locs : List Loc) (ls : Array Slot), zH D cy bs N kd len X5 Y6 R H → va_S (zA bs) s.heap H locs → lv_has ls 7 [(5, .int (zI (lo))), (4, .int (zI (mNw (a)))), (0, .ref (bs + (i))), (3, .int (zI (b)))] → W p l e (zRm 4 91) s m args below meth c H locs 0 0 (MQ below (zQi D cy bs N kd len (fun r st => st.2.2 = R ∧ ∃ rb : Bool, r = bz rb ∧ (lnP 0 (a) (b) X (st.1) Y (st.2.1) i rb))) args s 0 0 (zA bs)) (F0 m 125 ls []) := by
        intro lo hlo hI H locs ls hH hS hl
        have hF := hF.1 lo hlo  hI
        have J2 : ∀ (hi : Int), rI hi → (hi = if mNw a = 0 then 9 else if mNw a = 3 ∨ mNw a = 4 then 1 else 99) → ∀ (H : Heap) (locs : List Loc) (ls : Array Slot), zH D cy bs N kd len X5 Y6 R H → va_S (zA bs) s.heap H locs → lv_has ls 7 [(6, .int (zI (hi))), (5, .int (zI (lo))), (4, .int (zI (mNw (a)))), (0, .ref (bs + (i))), (3, .int (zI (b)))] → W p l e (zRm 4 91) s m args below meth c H locs 0 0 (MQ below (zQi D cy bs N kd len (fun r st => st.2.2 = R ∧ ∃ rb : Bool, r = bz rb ∧ (lnP 0 (a) (b) X (st.1) Y (st.2.1) i rb))) args s 0 0 (zA bs)) (F0 m 155 ls []) := by
          intro hi hhi hI H locs ls hH hS hl
          have hF := hF.1 hi hhi  hI
          refine lv_aload_n C.1 C.2.1 dX11_netLine_155 rfl (lv_at hl 3 rfl) ?_
          refine zd_iconst C dX11_netLine_156 ?_
          refine lv_iload C.1 C.2.1 dX11_netLine_157 (lv_at hl 1 rfl) ?_
          refine lv_iload C.1 C.2.1 dX11_netLine_159 (lv_at hl 0 rfl) ?_
          obtain ⟨o7, hF⟩ := hF
          refine zgoi (zrunV (As := [.int (zI (0)), .int (zI (lo)), .int (zI (hi))]) (rest := []) C hE hH hS hl.1 (c_X11_take (l := l) hM (0) (by decide) (lo) hlo (hi) hhi o7) k_RX11_181 ⟨Nat.le_of_ble_eq_true rfl, Nat.le_of_ble_eq_true rfl⟩ (zM_n0 hM) (zM_k0 hM) rfl rfl rfl (Nat.le_of_ble_eq_true rfl) dX11_netLine_161 ⟨Nat.zero_le _, Nat.zero_le _⟩) hS (fun rq X8 Y9 Rq H locs hrq hq hH hS => ?_)
          obtain ⟨h9R, hq⟩ := hq
          dsimp only at h9R
          rw [h9R] at hH
          obtain ⟨r10, h91, hq⟩ := hq
          subst h91
          have hF := hF r10 X8 hH.2.2.1 Y9 hH.2.2.2 hq
          refine zd_ifB_ne C 169 dX11_netLine_164 (by decide) (fun c11 => ?_) (fun c11 => ?_)
          · have hF := hF.1 c11
            have J3 : ∀ (X12 : Nat → Int → Int), (X12 = zU X8 (i + 11) (mNw a) (if X8 i 22 = 0 then X8 (i + 11) (mNw a) else X8 (i + 12) 0)) → ∀ (H : Heap) (locs : List Loc) (ls : Array Slot), zH D cy bs N kd len X12 Y9 R H → va_S (zA bs) s.heap H locs → lv_has ls 7 [(0, .ref (bs + (i)))] → W p l e (zRm 4 91) s m args below meth c H locs 0 0 (MQ below (zQi D cy bs N kd len (fun r st => st.2.2 = R ∧ ∃ rb : Bool, r = bz rb ∧ (lnP 0 (a) (b) X (st.1) Y (st.2.1) i rb))) args s 0 0 (zA bs)) (F0 m 199 ls []) := by
              intro X12  hI H locs ls hH hS hl
              have hF := hF.1 X12  hH.2.2.1 hI
              refine zd_iconst C dX11_netLine_199 ?_
              exact zd_zret C hr hlk hH hS (by decide) (⟨rfl, _, rfl, hF⟩) dX11_netLine_200
            have hF := hF.2
            refine lv_aload_n C.1 C.2.1 dX11_netLine_169 rfl (lv_at hl 3 rfl) ?_
            refine zg11_20 C hH (zM_n0 hM) (zM_k0 hM) q_1307 (zM_r11 hM) dX11_netLine_170 ?_
            refine lv_iload C.1 C.2.1 dX11_netLine_173 (lv_at hl 2 rfl) ?_
            refine lv_aload_n C.1 C.2.1 dX11_netLine_175 rfl (lv_at hl 3 rfl) ?_
            refine zg11_22 C hH (zM_n0 hM) (zM_k0 hM) q_1309 dX11_netLine_176 ?_
            refine zd_if_eq C (hH.2.2.1 _ _) 191 dX11_netLine_179 (by decide) (fun c13 => ?_) (fun c13 => ?_)
            · have hF := hF.1 c13
              refine lv_aload_n C.1 C.2.1 dX11_netLine_191 rfl (lv_at hl 3 rfl) ?_
              refine zg11_20 C hH (zM_n0 hM) (zM_k0 hM) q_1307 (zM_r11 hM) dX11_netLine_192 ?_
              refine lv_iload C.1 C.2.1 dX11_netLine_195 (lv_at hl 2 rfl) ?_
              obtain ⟨o14, hF⟩ := hF
              refine zd_iald C hH (zM_n11 hM) (zM_k11 hM) o14.1 (by rw [zM_l11 hM]; exact o14.2) (by rw [zM_l11 hM]; decide) dX11_netLine_197 ?_
              obtain ⟨o15, hF⟩ := hF
              refine zd_iast C hH hS (zM_n11 hM) (zM_k11 hM) o15.1 (by rw [zM_l11 hM]; exact o15.2) (by rw [zM_l11 hM]; decide) (hH.2.2.1 _ _) dX11_netLine_198 (fun H locs hH hS => ?_)
              obtain ⟨X16, eX16⟩ : ∃ z, z = zU X8 (i + 11) (mNw (a)) (X8 (i + 11) (mNw (a))) := ⟨_, rfl⟩
              rw [← eX16] at hH
              have hF := hF X16 eX16 hH.2.2.1
              exact J3 X16  hF _ _ _ hH hS (lv_sub hl [3] rfl)
            · have hF := hF.2 c13
              refine lv_aload_n C.1 C.2.1 dX11_netLine_182 rfl (lv_at hl 3 rfl) ?_
              refine zg11_21 C hH (zM_n0 hM) (zM_k0 hM) q_1308 (zM_r12 hM) dX11_netLine_183 ?_
              refine zd_iconst C dX11_netLine_186 ?_
              refine zd_iald C hH (zM_n12 hM) (zM_k12 hM) (by decide) (by rw [zM_l12 hM]; decide) (by rw [zM_l12 hM]; decide) dX11_netLine_187 ?_
              refine lv_goto (tgt := 198) C.1 C.2.1 dX11_netLine_188 (by decide) ?_
              obtain ⟨o17, hF⟩ := hF
              refine zd_iast C hH hS (zM_n11 hM) (zM_k11 hM) o17.1 (by rw [zM_l11 hM]; exact o17.2) (by rw [zM_l11 hM]; decide) (hH.2.2.1 _ _) dX11_netLine_198 (fun H locs hH hS => ?_)
              obtain ⟨X18, eX18⟩ : ∃ z, z = zU X8 (i + 11) (mNw (a)) (X8 (i + 12) (0)) := ⟨_, rfl⟩
              rw [← eX18] at hH
              have hF := hF X18 eX18 hH.2.2.1
              exact J3 X18  hF _ _ _ hH hS (lv_sub hl [3] rfl)
          · have hF := hF.2 c11
            refine zd_iconst C dX11_netLine_167 ?_
            exact zd_zret C hr hlk hH hS (by decide) (⟨rfl, _, rfl, hF⟩) dX11_netLine_168
        have hF := hF.2
        refine lv_iload C.1 C.2.1 dX11_netLine_125 (lv_at hl 1 rfl) ?_
        refine zd_if_ne C hr1 135 dX11_netLine_127 (by decide) (fun c19 => ?_) (fun c19 => ?_)
        · have hF := hF.1 c19
          refine lv_iload C.1 C.2.1 dX11_netLine_135 (lv_at hl 1 rfl) ?_
          refine zd_iconst C dX11_netLine_137 ?_
          refine zd_icmp_eq C hr1 (by decide) 147 dX11_netLine_138 (by decide) (fun c20 => ?_) (fun c20 => ?_)
          · have hF := hF.1 c20
            refine zd_iconst C dX11_netLine_147 ?_
            refine lv_goto (tgt := 153) C.1 C.2.1 dX11_netLine_148 (by decide) ?_
            refine lv_istore (lv' := [(6, .int (zI (1))), (5, .int (zI (lo))), (4, .int (zI (mNw (a)))), (0, .ref (bs + (i))), (3, .int (zI (b)))]) C.1 C.2.1 dX11_netLine_153 hl (by decide) rfl (fun ls hl => ?_)
            exact J2 ((1 : Int)) (by decide) hF _ _ _ hH hS (lv_sub hl [0, 1, 2, 3, 4] rfl)
          · have hF := hF.2 c20
            refine lv_iload C.1 C.2.1 dX11_netLine_141 (lv_at hl 1 rfl) ?_
            refine zd_iconst C dX11_netLine_143 ?_
            refine zd_icmp_ne C hr1 (by decide) 151 dX11_netLine_144 (by decide) (fun c21 => ?_) (fun c21 => ?_)
            · have hF := hF.1 c21
              refine zd_bipush C (by decide) dX11_netLine_151 ?_
              refine lv_istore (lv' := [(6, .int (zI (99))), (5, .int (zI (lo))), (4, .int (zI (mNw (a)))), (0, .ref (bs + (i))), (3, .int (zI (b)))]) C.1 C.2.1 dX11_netLine_153 hl (by decide) rfl (fun ls hl => ?_)
              exact J2 ((99 : Int)) (by decide) hF _ _ _ hH hS (lv_sub hl [0, 1, 2, 3, 4] rfl)
            · have hF := hF.2 c21
              refine zd_iconst C dX11_netLine_147 ?_
              refine lv_goto (tgt := 153) C.1 C.2.1 dX11_netLine_148 (by decide) ?_
              refine lv_istore (lv' := [(6, .int (zI (1))), (5, .int (zI (lo))), (4, .int (zI (mNw (a)))), (0, .ref (bs + (i))), (3, .int (zI (b)))]) C.1 C.2.1 dX11_netLine_153 hl (by decide) rfl (fun ls hl => ?_)
              exact J2 ((1 : Int)) (by decide) hF _ _ _ hH hS (lv_sub hl [0, 1, 2, 3, 4] rfl)
        · have hF := hF.2 c19
          refine zd_bipush C (by decide) dX11_netLine_130 ?_
          refine lv_goto (tgt := 153) C.1 C.2.1 dX11_netLine_132 (by decide) ?_
          refine lv_istore (lv' := [(6, .int (zI (9))), (5, .int (zI (lo))), (4, .int (zI (mNw (a)))), (0, .ref (bs + (i))), (3, .int (zI (b)))]) C.1 C.2.1 dX11_netLine_153 hl (by decide) rfl (fun ls hl => ?_)
          exact J2 ((9 : Int)) (by decide) hF _ _ _ hH hS (lv_sub hl [0, 1, 2, 3, 4] rfl)
      have hF := hF.2
      refine lv_iload C.1 C.2.1 dX11_netLine_112 (lv_at hl 0 rfl) ?_
      refine zd_iconst C dX11_netLine_114 ?_
      refine zd_icmp_ge C hr1 (by decide) 122 dX11_netLine_115 (by decide) (fun c22 => ?_) (fun c22 => ?_)
      · have hF := hF.1 c22
        refine zd_iconst C dX11_netLine_122 ?_
        refine lv_istore (lv' := [(5, .int (zI (0))), (4, .int (zI (mNw (a)))), (0, .ref (bs + (i))), (1, .long (zL (a))), (3, .int (zI (b)))]) C.1 C.2.1 dX11_netLine_123 hl (by decide) rfl (fun ls hl => ?_)
        exact J1 ((0 : Int)) (by decide) hF _ _ _ hH hS (lv_sub hl [0, 1, 2, 4] rfl)
      · have hF := hF.2 c22
        refine zd_iconst C dX11_netLine_118 ?_
        refine lv_goto (tgt := 123) C.1 C.2.1 dX11_netLine_119 (by decide) ?_
        refine lv_istore (lv' := [(5, .int (zI (1))), (4, .int (zI (mNw (a)))), (0, .ref (bs + (i))), (1, .long (zL (a))), (3, .int (zI (b)))]) C.1 C.2.1 dX11_netLine_123 hl (by decide) rfl (fun ls hl => ?_)
        exact J1 ((1 : Int)) (by decide) hF _ _ _ hH hS (lv_sub hl [0, 1, 2, 4] rfl)
    · have hF := hF.2 c3
      refine lv_aload_n C.1 C.2.1 dX11_netLine_103 rfl (lv_at hl 1 rfl) ?_
      refine zgoi (zrunV (As := []) (rest := []) C hE hH hS hl.1 (c_X11_fails (l := l) hM ) k_RX11_140 ⟨Nat.le_of_ble_eq_true rfl, Nat.le_of_ble_eq_true rfl⟩ (zM_n0 hM) (zM_k0 hM) rfl rfl rfl (Nat.le_of_ble_eq_true rfl) dX11_netLine_104 ⟨Nat.zero_le _, Nat.zero_le _⟩) hS (fun rq X23 Yq Rq H locs hrq hq hH hS => ?_)
      obtain ⟨h9Y, h9R, hq⟩ := hq
      dsimp only at h9Y h9R
      rw [h9Y, h9R] at hH
      obtain ⟨r24, h91, hq⟩ := hq
      subst h91
      have hF := hF r24 X23 hH.2.2.1 hq
      exact zd_zret C hr hlk hH hS bz_01 (⟨rfl, _, rfl, hF⟩) dX11_netLine_107
  · have hF := hF.2 c2
    refine lv_aload_n C.1 C.2.1 dX11_netLine_15 rfl (lv_at hl 1 rfl) ?_
    refine zd_bipush C (by decide) dX11_netLine_16 ?_
    refine zd_bipush C (by decide) dX11_netLine_18 ?_
    refine lv_iload_n C.1 C.2.1 dX11_netLine_20 rfl (lv_at hl 3 rfl) ?_
    obtain ⟨o25, hF⟩ := hF
    refine zgov (zrunV (As := [.int (zI (6)), .int (zI (6)), .int (zI (b))]) (rest := []) C hE hH hS hl.1 (c_X11_full (l := l) hM (6) (by decide) (6) (by decide) (b) hb o25) k_RX11_177 ⟨Nat.le_of_ble_eq_true rfl, Nat.le_of_ble_eq_true rfl⟩ (zM_n0 hM) (zM_k0 hM) rfl rfl rfl (Nat.le_of_ble_eq_true rfl) dX11_netLine_21 ⟨Nat.zero_le _, Nat.zero_le _⟩) hS (fun X26 Yq Rq H locs hq hH hS => ?_)
    obtain ⟨h9Y, h9R, hq⟩ := hq
    dsimp only at h9Y h9R
    rw [h9Y, h9R] at hH
    have hF := hF X26 hH.2.2.1 hq
    refine lv_aload_n C.1 C.2.1 dX11_netLine_24 rfl (lv_at hl 1 rfl) ?_
    obtain ⟨o27, hF⟩ := hF
    refine zgov (zrunV (As := []) (rest := []) C hE hH hS hl.1 (c_X11_token (l := l) hM  o27) k_RX11_152 ⟨Nat.le_of_ble_eq_true rfl, Nat.le_of_ble_eq_true rfl⟩ (zM_n0 hM) (zM_k0 hM) rfl rfl rfl (Nat.le_of_ble_eq_true rfl) dX11_netLine_25 ⟨Nat.zero_le _, Nat.zero_le _⟩) hS (fun X28 Y29 Rq H locs hq hH hS => ?_)
    obtain ⟨h9R, hq⟩ := hq
    dsimp only at h9R
    rw [h9R] at hH
    have hF := hF X28 hH.2.2.1 Y29 hH.2.2.2 hq
    refine lv_aload_n C.1 C.2.1 dX11_netLine_28 rfl (lv_at hl 1 rfl) ?_
    refine zd_iconst C dX11_netLine_29 ?_
    refine zd_iconst C dX11_netLine_30 ?_
    refine zd_bipush C (by decide) dX11_netLine_31 ?_
    obtain ⟨o30, hF⟩ := hF
    refine zgoi (zrunV (As := [.int (zI (0)), .int (zI (0)), .int (zI (99))]) (rest := []) C hE hH hS hl.1 (c_X11_take (l := l) hM (0) (by decide) (0) (by decide) (99) (by decide) o30) k_RX11_181 ⟨Nat.le_of_ble_eq_true rfl, Nat.le_of_ble_eq_true rfl⟩ (zM_n0 hM) (zM_k0 hM) rfl rfl rfl (Nat.le_of_ble_eq_true rfl) dX11_netLine_33 ⟨Nat.zero_le _, Nat.zero_le _⟩) hS (fun rq X31 Y32 Rq H locs hrq hq hH hS => ?_)
    obtain ⟨h9R, hq⟩ := hq
    dsimp only at h9R
    rw [h9R] at hH
    obtain ⟨r33, h91, hq⟩ := hq
    subst h91
    have hF := hF r33 X31 hH.2.2.1 Y32 hH.2.2.2 hq
    refine zd_ifB_ne C 41 dX11_netLine_36 (by decide) (fun c34 => ?_) (fun c34 => ?_)
    · have hF := hF.1 c34
      have J4 : ∀ (X35 : Nat → Int → Int), (X35 = if X31 (i + 11) 6 < 6 then zU X31 (i + 11) (7 + X31 (i + 11) 6) (X31 (i + 12) 0) else X31) → ∀ (H : Heap) (locs : List Loc) (ls : Array Slot), zH D cy bs N kd len X35 Y32 R H → va_S (zA bs) s.heap H locs → lv_has ls 7 [(0, .ref (bs + (i)))] → W p l e (zRm 4 91) s m args below meth c H locs 0 0 (MQ below (zQi D cy bs N kd len (fun r st => st.2.2 = R ∧ ∃ rb : Bool, r = bz rb ∧ (lnP 0 (a) (b) X (st.1) Y (st.2.1) i rb))) args s 0 0 (zA bs)) (F0 m 74 ls []) := by
        intro X35  hI H locs ls hH hS hl
        have hF := hF.1 X35  hH.2.2.1 hI
        refine lv_aload_n C.1 C.2.1 dX11_netLine_74 rfl (lv_at hl 0 rfl) ?_
        refine zg11_20 C hH (zM_n0 hM) (zM_k0 hM) q_1307 (zM_r11 hM) dX11_netLine_75 ?_
        refine zd_bipush C (by decide) dX11_netLine_78 ?_
        refine zd_bipush C (by decide) dX11_netLine_80 ?_
        refine lv_aload_n C.1 C.2.1 dX11_netLine_82 rfl (lv_at hl 0 rfl) ?_
        refine zg11_20 C hH (zM_n0 hM) (zM_k0 hM) q_1307 (zM_r11 hM) dX11_netLine_83 ?_
        refine zd_bipush C (by decide) dX11_netLine_86 ?_
        refine zd_iald C hH (zM_n11 hM) (zM_k11 hM) (by decide) (by rw [zM_l11 hM]; decide) (by rw [zM_l11 hM]; decide) dX11_netLine_88 ?_
        refine zd_iconst C dX11_netLine_89 ?_
        refine zd_iadd C dX11_netLine_90 ?_
        obtain ⟨o36, hF⟩ := hF
        refine zgoi (zrunS (As := [.int (zI (6)), .int (zI ((X35 (i + 11) (6)) + 1))]) (rest := [.int (zI (6)), .ref (bs + (i + 11))]) C hE hH hS hl.1 (c_X11_lesser (l := l)  (6) (by decide) ((X35 (i + 11) (6)) + 1) o36) k_RX11_184 ⟨Nat.le_of_ble_eq_true rfl, Nat.le_of_ble_eq_true rfl⟩ rfl (Nat.le_of_ble_eq_true rfl) dX11_netLine_91 ⟨Nat.zero_le _, Nat.zero_le _⟩) hS (fun rq Xq Yq Rq H locs hrq hq hH hS => ?_)
        obtain ⟨h91, h92⟩ := hq
        have h93 : Xq = X35 := congrArg (fun z => z.1) h92
        have h94 : Yq = Y32 := congrArg (fun z => z.2.1) h92
        have h95 : Rq = R := congrArg (fun z => z.2.2) h92
        rw [h93, h94, h95] at hH
        subst h91
        have hr37 := hrq
        have hF := hF hr37
        refine zd_iast C hH hS (zM_n11 hM) (zM_k11 hM) (by decide) (by rw [zM_l11 hM]; decide) (by rw [zM_l11 hM]; decide) hr37 dX11_netLine_94 (fun H locs hH hS => ?_)
        obtain ⟨X38, eX38⟩ : ∃ z, z = zU X35 (i + 11) (6) (min ((6 : Int)) ((X35 (i + 11) (6)) + 1)) := ⟨_, rfl⟩
        rw [← eX38] at hH
        have hF := hF X38 eX38 hH.2.2.1
        refine zd_iconst C dX11_netLine_95 ?_
        exact zd_zret C hr hlk hH hS (by decide) (⟨rfl, _, rfl, hF⟩) dX11_netLine_96
      have hF := hF.2
      refine lv_aload_n C.1 C.2.1 dX11_netLine_41 rfl (lv_at hl 1 rfl) ?_
      refine zg11_20 C hH (zM_n0 hM) (zM_k0 hM) q_1307 (zM_r11 hM) dX11_netLine_42 ?_
      refine zd_bipush C (by decide) dX11_netLine_45 ?_
      refine zd_iald C hH (zM_n11 hM) (zM_k11 hM) (by decide) (by rw [zM_l11 hM]; decide) (by rw [zM_l11 hM]; decide) dX11_netLine_47 ?_
      refine zd_bipush C (by decide) dX11_netLine_48 ?_
      refine zd_icmp_ge C (hH.2.2.1 _ _) (by decide) 74 dX11_netLine_50 (by decide) (fun c39 => ?_) (fun c39 => ?_)
      · have hF := hF.1 c39
        exact J4 X31  hF _ _ _ hH hS (lv_sub hl [1] rfl)
      · have hF := hF.2 c39
        refine lv_aload_n C.1 C.2.1 dX11_netLine_53 rfl (lv_at hl 1 rfl) ?_
        refine zg11_20 C hH (zM_n0 hM) (zM_k0 hM) q_1307 (zM_r11 hM) dX11_netLine_54 ?_
        refine zd_bipush C (by decide) dX11_netLine_57 ?_
        refine lv_aload_n C.1 C.2.1 dX11_netLine_59 rfl (lv_at hl 1 rfl) ?_
        refine zg11_20 C hH (zM_n0 hM) (zM_k0 hM) q_1307 (zM_r11 hM) dX11_netLine_60 ?_
        refine zd_bipush C (by decide) dX11_netLine_63 ?_
        refine zd_iald C hH (zM_n11 hM) (zM_k11 hM) (by decide) (by rw [zM_l11 hM]; decide) (by rw [zM_l11 hM]; decide) dX11_netLine_65 ?_
        refine zd_iadd C dX11_netLine_66 ?_
        refine lv_aload_n C.1 C.2.1 dX11_netLine_67 rfl (lv_at hl 1 rfl) ?_
        refine zg11_21 C hH (zM_n0 hM) (zM_k0 hM) q_1308 (zM_r12 hM) dX11_netLine_68 ?_
        refine zd_iconst C dX11_netLine_71 ?_
        refine zd_iald C hH (zM_n12 hM) (zM_k12 hM) (by decide) (by rw [zM_l12 hM]; decide) (by rw [zM_l12 hM]; decide) dX11_netLine_72 ?_
        obtain ⟨o40, hF⟩ := hF
        refine zd_iast C hH hS (zM_n11 hM) (zM_k11 hM) o40.1 (by rw [zM_l11 hM]; exact o40.2) (by rw [zM_l11 hM]; decide) (hH.2.2.1 _ _) dX11_netLine_73 (fun H locs hH hS => ?_)
        obtain ⟨X41, eX41⟩ : ∃ z, z = zU X31 (i + 11) (7 + (X31 (i + 11) (6))) (X31 (i + 12) (0)) := ⟨_, rfl⟩
        rw [← eX41] at hH
        have hF := hF X41 eX41 hH.2.2.1
        exact J4 X41  hF _ _ _ hH hS (lv_sub hl [1] rfl)
    · have hF := hF.2 c34
      refine zd_iconst C dX11_netLine_39 ?_
      exact zd_zret C hr hlk hH hS (by decide) (⟨rfl, _, rfl, hF⟩) dX11_netLine_40
theorem v_X11_netLine {X Y : Nat → Int → Int} {R : Nat → Int → Option Nat} {i : Nat} (a : Int) (ha : rL a) (b : Int) (hb : rI b) (hp : oRd X i ∧ bnD 0 X i ∧ X i 22 = 1) : F_X11_netLine i X Y R a b := by
  unfold F_X11_netLine
  intro hX hY
  obtain ⟨hr, hbd, hgd⟩ := hp
  have hbd' : 0 ≤ X (i + 11) 6 ∧ X (i + 11) 6 ≤ 6 := hbd
  obtain ⟨nk1, nk2, nk3, nk4⟩ := mNw_k a
  intro _
  refine ⟨?_, ?_⟩
  · intro c1
    refine ⟨?_, ?_⟩
    · intro c2
      refine ⟨?_, ?_⟩
      · first | omega | exact ⟨by omega, by omega⟩ | decide | assumption | exact ⟨by omega, by omega, by omega⟩ | exact ⟨by decide, by decide⟩
      intro X5
      intro rX5
      intro Y6
      intro rY6
      intro h1
      obtain ⟨r3, r5, k5, u5, v5, w5, g5, l5, t5, st5⟩ := fu_st (c := false) (b := b) hr rfl h1
      refine ⟨?_, ?_⟩
      · intro lo
        intro _
        intro h2
        refine ⟨?_, ?_⟩
        · intro hi
          intro _
          intro h3
          refine ⟨?_, ?_⟩
          · exact ⟨r5, by decide, by decide⟩
          intro r10
          intro X8
          intro rX8
          intro Y9
          intro rY9
          intro h4
          obtain ⟨k8, u8, w8, f8, t8⟩ := tk_st r5 h4
          refine ⟨?_, ?_⟩
          · intro c3
            obtain ⟨r8, v8, e14, g8, st8⟩ := t8 c3
            refine ⟨?_, ?_⟩
            · intro X12
              intro rX12
              intro h5
              have o12 : ∀ z, z ≠ i + 11 → X12 z = X8 z := fun z hz => by rw [h5, zU_o hz]
              refine ⟨(k5.tr k8).tr ⟨fun z _ h2 _ => o12 z h2, fun s _ => by rw [o12 _ (by omega)], fun _ _ => rfl⟩, fun _ => ⟨oRd_k (o12 _ (by omega)) (by rw [o12 _ (by omega)]) (by rw [o12 _ (by omega)]) r8, ?_⟩, fun s hs hw hb hk => ?_⟩
              · show 0 ≤ X12 (i + 11) 6 ∧ X12 (i + 11) 6 ≤ 6
                rw [h5, zU_n (by omega), u8, u5]
                exact hbd'
              · have hs1 := st5 s hs hb hk
                have hs2 := st8 _ hs1
                rw [t5, l5] at hs2
                obtain ⟨k3, v3, hs2⟩ := hs2
                dsimp only at k3 v3 hs2
                have ek : kwT (X (i + 1)) (X i 12).toNat s.1 0 = mNw a := by
                  show kwN 0 (wdS X Y i s) = _
                  rw [← hw, nk1 c1]
                have fu0 : fuN 0 (mNw a) s.2.1.1 s.2.1.2 = false := by
                  unfold fuN
                  rw [if_pos rfl, decide_eq_false (by omega)]
                  rfl
                have vb := tkV_b k3
                have ecb : (mIn (tkV (X (i + 1)) (X i 12).toNat (tkN (X (i + 1)) (X i 12).toNat s.1)) lo hi && decide (tkV (X (i + 1)) (X i 12).toNat (tkN (X (i + 1)) (X i 12).toNat s.1) ≠ -1)) = cbN 0 (mNw a) ((0 : Nat) : Int) (tkV (X (i + 1)) (X i 12).toNat (tkN (X (i + 1)) (X i 12).toNat s.1)) (tkV (X (i + 1)) (X i 12).toNat (tkN (X (i + 1)) (X i 12).toNat s.1)) s.2.1.1 := by
                  rw [val_m1 vb.1, h2, h3]
                  unfold cbN
                  rw [if_pos rfl]
                  by_cases e0 : mNw a = 0
                  · rw [e0]
                    rfl
                  · rw [if_neg e0, if_neg e0]
                    by_cases e3 : mNw a < 3
                    · rw [if_pos e3, if_pos e3, if_neg (by omega)]
                    · rw [if_neg e3, if_neg e3]
                      by_cases e5 : mNw a < 5
                      · rw [if_pos e5, if_pos (by omega)]
                      · rw [if_neg e5, if_neg (by omega)]
                have hn := rdN_y (T := X (i + 1)) (n := (X i 12).toNat) (of := 0) (w := mNw a) (told := s.2.1.1) (p := tkN (X (i + 1)) (X i 12).toNat s.1) (fl := f1L (X (i + 1)) (X i 12).toNat 0 (mNw a) s) (j := 0) rfl k3
                rw [rdL_n ek c2 hn]
                refine ⟨rfl, ?_⟩
                have hs2 : rdS X8 Y9 i (tkN (X (i + 1)) (X i 12).toNat (tkN (X (i + 1)) (X i 12).toNat s.1), s.2.1, f2L (X (i + 1)) (X i 12).toNat 0 (mNw a) s.2.1.1 (tkN (X (i + 1)) (X i 12).toNat s.1) 0 (f1L (X (i + 1)) (X i 12).toNat 0 (mNw a) s)) := by
                  unfold f2L f1L
                  rw [fu0]
                  show rdS X8 Y9 i (_, _, if cbN 0 (mNw a) ((0 : Nat) : Int) (tkV (X (i + 1)) (X i 12).toNat (tkN (X (i + 1)) (X i 12).toNat s.1)) _ _ then _ else _)
                  rw [← ecb]
                  exact hs2
                refine rdS_tl hs2 (fun z _ hz => o12 z hz) (fun s _ => by rw [o12 _ (by omega)]) (fun z => ?_)
                have zz := fl0_nt (by decide) z
                have z1 := zz.2
                have hq : cbN 0 (mNw a) ((0 : Nat) : Int) (tkV (X (i + 1)) (X i 12).toNat (tkN (X (i + 1)) (X i 12).toNat s.1)) (tkV (X (i + 1)) (X i 12).toNat (tkN (X (i + 1)) (X i 12).toNat s.1)) s.2.1.1 = true := z1
                rw [← ecb, ← v3] at hq
                have gg := g8 hq
                obtain ⟨q1, q2⟩ := hs2.2.2 z
                have et : tlN 0 (mNw a) (fun j => tkV (X (i + 1)) (X i 12).toNat (ptN (X (i + 1)) (X i 12).toNat (tkN (X (i + 1)) (X i 12).toNat s.1) j)) s.2.1 = (upI s.2.1.1 (mNw a) (tkV (X (i + 1)) (X i 12).toNat (tkN (X (i + 1)) (X i 12).toNat s.1)), s.2.1.2) := by
                  unfold tlN
                  rw [if_pos rfl, if_neg (by omega)]
                  rfl
                rw [et, h5, gg, g5, hgd, if_neg (by decide), v8]
                refine ⟨fun y y0 y1 => ?_, ?_⟩
                · rw [zU_up]
                  unfold upI
                  rw [if_pos rfl, v3]
                  dsimp only
                  split
                  · rfl
                  · exact q1 y y0 y1
                · rw [zU_o (by omega)]
                  exact q2
            refine ⟨?_, ?_⟩
            · intro c4
              refine ⟨?_, ?_⟩
              · first | omega | exact ⟨by omega, by omega⟩ | decide | assumption | exact ⟨by omega, by omega, by omega⟩ | exact ⟨by decide, by decide⟩
              refine ⟨?_, ?_⟩
              · first | omega | exact ⟨by omega, by omega⟩ | decide | assumption | exact ⟨by omega, by omega, by omega⟩ | exact ⟨by decide, by decide⟩
              intro X16
              intro eX16
              intro rX16
              rw [if_pos c4]
              exact eX16
            intro c5
            refine ⟨?_, ?_⟩
            · first | omega | exact ⟨by omega, by omega⟩ | decide | assumption | exact ⟨by omega, by omega, by omega⟩ | exact ⟨by decide, by decide⟩
            intro X18
            intro eX18
            intro rX18
            rw [if_neg c5]
            exact eX18
          intro c6
          have f8 := f8 c6
          refine ⟨k5.tr k8, fun g => absurd g (by decide), fun s hs hw hb hk => ?_⟩
          have hs1 := st5 s hs hb hk
          have hn3 := f8.2 _ hs1.1.2
          rw [t5, l5] at hn3
          have ek : kwT (X (i + 1)) (X i 12).toNat s.1 0 = mNw a := by
            show kwN 0 (wdS X Y i s) = _
            rw [← hw, nk1 c1]
          have hn := rdN_x (T := X (i + 1)) (n := (X i 12).toNat) (of := 0) (w := mNw a) (told := s.2.1.1) (p := tkN (X (i + 1)) (X i 12).toNat s.1) (fl := f1L (X (i + 1)) (X i 12).toNat 0 (mNw a) s) (j := 0) rfl hn3
          rw [rdL_l ek c2 hn]
          refine ⟨rfl, ?_⟩
          rw [f8.1]
          have e := hs1.1.2.2.1
          rw [t5, l5] at e
          exact e
        refine ⟨?_, ?_⟩
        · intro c7
          refine ⟨?_, ?_⟩
          · intro c8
            rw [if_neg c7, if_pos (Or.inl c8)]
          intro c9
          refine ⟨?_, ?_⟩
          · intro c10
            rw [if_neg c7, if_neg (by omega)]
          intro c11
          rw [if_neg c7, if_pos (by omega)]
        intro c12
        rw [if_pos (Classical.not_not.mp c12)]
      refine ⟨?_, ?_⟩
      · intro c13
        rw [if_neg (by omega)]
      intro c14
      rw [if_pos (by omega)]
    intro c15
    intro r24
    intro X23
    intro rX23
    intro h6
    refine ⟨⟨fun z h1 _ _ => by rw [h6.2, zU_o h1], fun s hs => by rw [h6.2, zU_n (by omega)], fun _ _ => rfl⟩, fun g => (by rw [h6.1] at g; cases g), fun s hs hw hb hk => ?_⟩
    have ek : kwT (X (i + 1)) (X i 12).toNat s.1 0 = -1 := by
      show kwN 0 (wdS X Y i s) = -1
      rw [← hw]
      rw [nk1 c1]
      exact Classical.not_not.mp c15
    rw [rdL_k ek]
    exact ⟨h6.1, by rw [h6.2, zU_s]; exact hs.1.2.2.1⟩
  intro c16
  refine ⟨?_, ?_⟩
  · first | omega | exact ⟨by omega, by omega⟩ | decide | assumption | exact ⟨by omega, by omega, by omega⟩ | exact ⟨by decide, by decide⟩
  intro X26
  intro rX26
  intro h7
  rw [ifd] at h7
  refine ⟨?_, ?_⟩
  · rw [h7]
    split
    · exact oRd_k (adF_o.1 _ (by omega)) (adF_o.2 _ (by decide) (by decide)) (adF_o.2 _ (by decide) (by decide)) hr
    · exact hr
  intro X28
  intro rX28
  intro Y29
  intro rY29
  intro h8
  obtain ⟨r3, r5, k5, u5, v5, w5, g5, l5, t5, st5⟩ := fu_st (b := b) hr h7 h8
  refine ⟨?_, ?_⟩
  · exact ⟨r5, by decide, by decide⟩
  intro r33
  intro X31
  intro rX31
  intro Y32
  intro rY32
  intro h9
  obtain ⟨k8, u8, w8, f8, t8⟩ := tk_st r5 h9
  refine ⟨?_, ?_⟩
  · intro c17
    obtain ⟨r8, v8, e14, g8, st8⟩ := t8 c17
    have b31 : X31 (i + 11) 6 = X (i + 11) 6 := by rw [u8, u5]
    refine ⟨?_, ?_⟩
    · intro X35
      intro rX35
      intro h10
      have b34 : X35 (i + 11) 6 = X (i + 11) 6 := by
        rw [h10]
        split
        · rw [zU_n (by omega), b31]
        · exact b31
      rw [b34]
      refine ⟨?_, ?_⟩
      · first | omega | exact ⟨by omega, by omega⟩ | decide | assumption | exact ⟨by omega, by omega, by omega⟩ | exact ⟨by decide, by decide⟩
      intro _
      intro X38
      intro eX38
      intro rX38
      have o38 : ∀ z, z ≠ i + 11 → X38 z = X31 z := fun z hz => by
        rw [eX38, zU_o hz, h10]
        split
        · rw [zU_o hz]
        · rfl
      have ea := Classical.not_not.mp c16
      refine ⟨(k5.tr k8).tr ⟨fun z _ h2 _ => o38 z h2, fun s _ => by rw [o38 _ (by omega)], fun _ _ => rfl⟩, fun _ => ⟨oRd_k (o38 _ (by omega)) (by rw [o38 _ (by omega)]) (by rw [o38 _ (by omega)]) r8, ?_⟩, fun s hs hw hb hk => ?_⟩
      · show 0 ≤ X38 (i + 11) 6 ∧ X38 (i + 11) 6 ≤ 6
        rw [eX38, zU_s]
        exact ⟨by omega, by omega⟩
      · have hs1 := st5 s hs hb hk
        have hs2 := st8 _ hs1
        rw [t5, l5] at hs2
        obtain ⟨k3, v3, hs2⟩ := hs2
        dsimp only at k3 v3 hs2
        have ek : kwT (X (i + 1)) (X i 12).toNat s.1 0 = 6 := by
          show kwN 0 (wdS X Y i s) = _
          rw [← hw, nk2 ea]
        have vb := tkV_b k3
        have ecb : (mIn (tkV (X (i + 1)) (X i 12).toNat (tkN (X (i + 1)) (X i 12).toNat s.1)) 0 99 && decide (tkV (X (i + 1)) (X i 12).toNat (tkN (X (i + 1)) (X i 12).toNat s.1) ≠ -1)) = cbN 0 6 ((0 : Nat) : Int) (tkV (X (i + 1)) (X i 12).toNat (tkN (X (i + 1)) (X i 12).toNat s.1)) (tkV (X (i + 1)) (X i 12).toNat (tkN (X (i + 1)) (X i 12).toNat s.1)) s.2.1.1 := by
          rw [val_m1 vb.1]
          rfl
        have hn := rdN_y (T := X (i + 1)) (n := (X i 12).toNat) (of := 0) (w := 6) (told := s.2.1.1) (p := tkN (X (i + 1)) (X i 12).toNat s.1) (fl := f1L (X (i + 1)) (X i 12).toNat 0 6 s) (j := 0) rfl k3
        rw [rdL_n ek (by decide) hn]
        refine ⟨rfl, ?_⟩
        have efl : s.2.2.1 = 0 → decide (6 ≤ X (i + 11) 6) = fuN 0 6 s.2.1.1 s.2.1.2 := fun z => by
          rw [(hs.2.2 z).1 6 (by decide) (by decide)]
          rfl
        have ef1 : (if decide (6 ≤ X (i + 11) 6) = true then nt s.2.2 3 (tkB (X (i + 1)) (X i 12).toNat s.1) else s.2.2) = f1L (X (i + 1)) (X i 12).toNat 0 6 s := by
          unfold f1L
          by_cases z : s.2.2.1 = 0
          · rw [efl z]
          · have e : nt s.2.2 3 (tkB (X (i + 1)) (X i 12).toNat s.1) = s.2.2 := if_neg z
            rw [e]
            split <;> split <;> rfl
        have hs2 : rdS X31 Y32 i (tkN (X (i + 1)) (X i 12).toNat (tkN (X (i + 1)) (X i 12).toNat s.1), s.2.1, f2L (X (i + 1)) (X i 12).toNat 0 6 s.2.1.1 (tkN (X (i + 1)) (X i 12).toNat s.1) 0 (f1L (X (i + 1)) (X i 12).toNat 0 6 s)) := by
          unfold f2L
          show rdS X31 Y32 i (_, _, if cbN 0 6 ((0 : Nat) : Int) (tkV (X (i + 1)) (X i 12).toNat (tkN (X (i + 1)) (X i 12).toNat s.1)) _ _ then _ else _)
          rw [← ecb, ← ef1]
          exact hs2
        refine rdS_tl hs2 (fun z _ hz => o38 z hz) (fun s _ => by rw [o38 _ (by omega)]) (fun z => ?_)
        have zz := fl0_nt (by decide) z
        have z2 := fl0_n3 (by decide) zz.1
        have h6 : ¬ 6 ≤ X (i + 11) 6 := by
          have e := z2.2
          rw [← efl z2.1] at e
          exact of_decide_eq_false e
        obtain ⟨q1, q2⟩ := hs2.2.2 z
        have e6 : s.2.1.1 6 = X (i + 11) 6 := by rw [← q1 6 (by decide) (by decide), b31]
        have et : tlN 0 6 (fun j => tkV (X (i + 1)) (X i 12).toNat (ptN (X (i + 1)) (X i 12).toNat (tkN (X (i + 1)) (X i 12).toNat s.1) j)) s.2.1 = (upI (upI s.2.1.1 (7 + s.2.1.1 6) (tkV (X (i + 1)) (X i 12).toNat (tkN (X (i + 1)) (X i 12).toNat s.1))) 6 (s.2.1.1 6 + 1), s.2.1.2) := rfl
        rw [et, eX38, h10, b31, if_pos (by omega), v8]
        refine ⟨fun y y0 y1 => ?_, ?_⟩
        · rw [zU_up, zU_up, e6]
          unfold upI
          rw [if_pos rfl, v3]
          dsimp only
          split
          · omega
          · split
            · rfl
            · exact q1 y y0 y1
        · rw [zU_o (by omega), zU_o (by omega)]
          exact q2
    refine ⟨?_, ?_⟩
    · intro c18
      rw [if_neg (by omega)]
    intro c19
    refine ⟨?_, ?_⟩
    · rw [b31]
      exact ⟨by omega, by omega⟩
    intro X41
    intro eX41
    intro rX41
    rw [if_pos (by omega)]
    exact eX41
  intro c20
  have f8 := f8 c20
  refine ⟨k5.tr k8, fun g => absurd g (by decide), fun s hs hw hb hk => ?_⟩
  have ea := Classical.not_not.mp c16
  have hs1 := st5 s hs hb hk
  have hn3 := f8.2 _ hs1.1.2
  rw [t5, l5] at hn3
  have ek : kwT (X (i + 1)) (X i 12).toNat s.1 0 = 6 := by
    show kwN 0 (wdS X Y i s) = _
    rw [← hw, nk2 ea]
  have hn := rdN_x (T := X (i + 1)) (n := (X i 12).toNat) (of := 0) (w := 6) (told := s.2.1.1) (p := tkN (X (i + 1)) (X i 12).toNat s.1) (fl := f1L (X (i + 1)) (X i 12).toNat 0 6 s) (j := 0) rfl hn3
  rw [rdL_l ek (by decide) hn]
  refine ⟨rfl, ?_⟩
  rw [f8.1]
  have e := hs1.1.2.2.1
  rw [t5, l5] at e
  exact e
theorem c_X11_netLine {l : Launch} {D : va_G} {cy : Nat → ClassId} {bs N : Nat} {sa : Nat → Nat} {kd len : Nat → Nat} {X Y : Nat → Int → Int} {R : Nat → Int → Option Nat} {i : Nat} (hM : zM N kd len R i) (a : Int) (ha : rL a) (b : Int) (hb : rI b) (hp : oRd X i ∧ bnD 0 X i ∧ X i 22 = 1) : Met l yX11_netLine (.code yX11_netLine cX11_netLine 7 (some .boolean) :: zTB) (zRm 4 91) (zPc D cy bs sa N kd len X Y R [.ref (bs + (i)), .long (zL (a)), .int (zI (b))]) (zQi D cy bs N kd len (fun r st => st.2.2 = R ∧ ∃ rb : Bool, r = bz rb ∧ (lnP 0 (a) (b) X (st.1) Y (st.2.1) i rb))) 0 0 (zA bs) := w_X11_netLine hM a ha b hb (v_X11_netLine a ha b hb hp)
