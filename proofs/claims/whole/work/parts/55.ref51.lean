/-! LINES OF ROWS -/
theorem nt_c {fl : Int × Int} {c c' : Bool} {f pl : Int} (h : fl.1 = 0 → c = c') : (if c = true then fl else nt fl f pl) = if c' = true then fl else nt fl f pl := by
  by_cases z : fl.1 = 0
  · rw [h z]
  · have e : nt fl f pl = fl := if_neg z
    rw [e]
    split <;> split <;> rfl
theorem nt_d {fl : Int × Int} {c c' : Bool} {f pl : Int} (h : fl.1 = 0 → c = c') : (if c = true then nt fl f pl else fl) = if c' = true then nt fl f pl else fl := by
  by_cases z : fl.1 = 0
  · rw [h z]
  · have e : nt fl f pl = fl := if_neg z
    rw [e]
    split <;> split <;> rfl
theorem upS_n {t : Int → Int} {a y : Int} {v : Nat → Int} : ∀ q : Nat, (y < a ∨ a + q ≤ y) → upS t a v q y = t y
  | 0, _ => rfl
  | q + 1, h => by
    show upI (upS t a v q) (a + q) (v q) y = _
    unfold upI
    rw [if_neg (by omega)]
    exact upS_n q (by omega)
theorem upS_y {t : Int → Int} {a y : Int} {v : Nat → Int} : ∀ (q j : Nat), j < q → y = a + j → upS t a v q y = v j
  | 0, j, h, _ => absurd h (Nat.not_lt_zero _)
  | q + 1, j, h, e => by
    show upI (upS t a v q) (a + q) (v q) y = _
    unfold upI
    by_cases g : j = q
    · rw [if_pos (by omega), g]
    · rw [if_neg (by omega)]
      exact upS_y q j (by omega) e
theorem upS_c {A B : Int → Int} {v v' : Nat → Int} {a y : Int} (h : A y = B y) : ∀ q : Nat, (∀ j, j < q → v j = v' j) → upS A a v q y = upS B a v' q y
  | 0, _ => h
  | q + 1, hv => by
    show upI (upS A a v q) (a + q) (v q) y = upI (upS B a v' q) (a + q) (v' q) y
    unfold upI
    rw [hv q (by omega)]
    split
    · rfl
    · exact upS_c h q (fun j hj => hv j (by omega))
def krP (X X1 : Nat → Int → Int) (i : Nat) (wd most : Int) : Prop := (∀ z, z ≠ i + 11 → X1 z = X z) ∧ X1 (i + 11) = upI (if X (i + 11) 0 < most then upS (X (i + 11)) (1 + wd * X (i + 11) 0) (fun j => X (i + 12) j) wd.toNat else X (i + 11)) 0 (min most (X (i + 11) 0 + 1))
theorem upI_ne {f : Int → Int} {a v y : Int} (h : y ≠ a) : upI f a v y = f y := if_neg h
theorem ln_0 {X X3 X5 Y Y5 : Nat → Int → Int} {i : Nat} {c : Bool} {b of k : Int} {s : rST} (hr : oRd X i) (h3 : X3 = if c = true then adF X i 3 b else X)
    (h5 : tkC X3 X5 Y Y5 i ∧ X5 i 11 = tkN (X3 (i + 1)) (X3 i 12).toNat (X3 i 11).toNat ∧ X5 i 13 = tkB (X3 (i + 1)) (X3 i 12).toNat (X3 i 11).toNat ∧ X5 i 14 = tkS (X3 (i + 1)) (X3 i 12).toNat (X3 i 11).toNat ∧ (X5 i 14 = 3 → X5 i 15 = tkV (X3 (i + 1)) (X3 i 12).toNat (X3 i 11).toNat) ∧ (X5 i 14 = 2 → Y5 i 16 = tkW (X3 (i + 1)) (X3 i 12).toNat (X3 i 11).toNat))
    (hs : rdS X Y i s) (hb : b = tkB (X (i + 1)) (X i 12).toNat s.1) (hk : tkS (X (i + 1)) (X i 12).toNat s.1 ≠ 0) (hc : s.2.2.1 = 0 → c = fuN of k s.2.1.1 s.2.1.2) :
    rdN (X (i + 1)) (X i 12).toNat of k s.2.1.1 (tkN (X (i + 1)) (X i 12).toNat s.1) (f1L (X (i + 1)) (X i 12).toNat of k s) 0 = .inr (f1L (X (i + 1)) (X i 12).toNat of k s) ∧ rdS X5 Y5 i (ptN (X (i + 1)) (X i 12).toNat (tkN (X (i + 1)) (X i 12).toNat s.1) 0, s.2.1, f1L (X (i + 1)) (X i 12).toNat of k s) := by
  refine ⟨rfl, ?_⟩
  have q := (fu_st hr h3 h5).2.2.2.2.2.2.2.2.2 s hs hb hk
  unfold f1L
  rw [← nt_d hc]
  exact q
theorem ln_s {X8 X13 Y8 Y13 : Nat → Int → Int} {i idx : Nat} {lo hi but of k : Int} {r : Bool} {T : Int → Int} {n p1 j : Nat} {told : Int → Int} {fl f : Int × Int} {td : (Int → Int) × Int} (r8 : oRd X8 i)
    (h4 : r = decide (X8 i 14 = 3) ∧ (r = false → X13 = zU X8 i 17 (X8 i 13) ∧ Y13 = Y8) ∧ (r = true → tkC (tbX X8 i idx lo hi but) X13 Y8 Y13 i ∧ tkAt X13 Y13 i (X8 i 11).toNat ∧ oRd X13 i))
    (hT : X8 (i + 1) = T) (hn : (X8 i 12).toNat = n) (hf : rdN T n of k told p1 fl j = .inr f) (hs : rdS X8 Y8 i (ptN T n p1 j, td, f))
    (hc : f.1 = 0 → tkS T n (ptN T n p1 j) = 3 → (mIn (tkV T n (ptN T n p1 j)) lo hi && decide (tkV T n (ptN T n p1 j) ≠ but)) = cbN of k j (tkV T n (ptN T n p1 j)) (tkV T n p1) told) :
    (r = false → rdN T n of k told p1 fl (j + 1) = .inl (tkB T n (ptN T n p1 j)) ∧ X13 i 17 = tkB T n (ptN T n p1 j)) ∧
    (r = true → tkS T n (ptN T n p1 j) = 3 ∧ X8 i 15 = tkV T n (ptN T n p1 j) ∧ X13 (i + 12) = upI (X8 (i + 12)) idx (tkV T n (ptN T n p1 j)) ∧ ∃ f', rdN T n of k told p1 fl (j + 1) = .inr f' ∧ rdS X13 Y13 i (ptN T n p1 (j + 1), td, f') ∧ (f'.1 = 0 → f.1 = 0)) := by
  subst hT
  subst hn
  obtain ⟨k13, u13, w13, f13, t13⟩ := tk_st r8 h4
  refine ⟨fun h => ?_, fun h => ?_⟩
  · obtain ⟨g1, g2⟩ := f13 h
    have n3 := g2 _ hs.1.2
    exact ⟨rdN_x hf n3, by rw [g1]; exact hs.1.2.2.1⟩
  · obtain ⟨g1, g2, g3, g4, g5⟩ := t13 h
    obtain ⟨k3, v3, s3⟩ := g5 _ hs
    have v3 : X8 i 15 = tkV (X8 (i + 1)) (X8 i 12).toNat (ptN (X8 (i + 1)) (X8 i 12).toNat p1 j) := v3
    refine ⟨k3, v3, by rw [g2, v3], _, rdN_y hf k3, ?_, ?_⟩
    · unfold f2L
      rw [← nt_c (fun z => hc z k3)]
      exact s3
    · unfold f2L
      intro z
      exact (fl0_nt (by decide) z).1
/-- a line of a row is told -/
theorem kr_tl {X13 X18 Y14 : Nat → Int → Int} {i p : Nat} {wd most of k : Int} {vv v : Nat → Int} {td : (Int → Int) × Int} {fl : Int × Int} (hs : rdS X13 Y14 i (p, td, fl)) (hk : krP X13 X18 i wd most) (hw : 1 ≤ wd ∧ wd ≤ 4)
    (h0 : fl.1 = 0 → td.1 0 < most) (hv : fl.1 = 0 → ∀ j, j < wd.toNat → X13 (i + 12) j = vv j) (ht : tlN of k v td = (upI (upS td.1 (1 + wd * td.1 0) vv wd.toNat) 0 (td.1 0 + 1), td.2)) : rdS X18 Y14 i (p, if fl.1 = 0 then tlN of k v td else td, fl) := by
  obtain ⟨o, kr⟩ := hk
  refine rdS_tl hs (fun z _ hz => o z hz) (fun s _ => by rw [o _ (by omega)]) (fun z => ?_)
  obtain ⟨q1, q2⟩ := hs.2.2 z
  have q1 : ∀ y, 0 ≤ y → y < 183 → X13 (i + 11) y = td.1 y := q1
  have q2 : X13 i 23 = td.2 := q2
  have hm := h0 z
  have e0 := q1 0 (by decide) (by decide)
  rw [ht]
  refine ⟨fun y y0 y1 => ?_, by rw [o _ (by omega)]; exact q2⟩
  rw [kr, e0, if_pos hm]
  show upI _ 0 _ y = upI _ 0 _ y
  unfold upI
  split
  · omega
  · exact upS_c (q1 y y0 y1) _ (hv z)
theorem kr_o {X X1 Y : Nat → Int → Int} {i : Nat} {wd most : Int} (h : krP X X1 i wd most) : rdK X X1 Y Y i ∧ (oRd X i → oRd X1 i) ∧ X1 (i + 11) 0 = min most (X (i + 11) 0 + 1) := by
  obtain ⟨o, kr⟩ := h
  exact ⟨⟨fun z _ h2 _ => o z h2, fun s _ => by rw [o _ (by omega)], fun _ _ => rfl⟩, fun r => oRd_k (o _ (by omega)) (by rw [o _ (by omega)]) (by rw [o _ (by omega)]) r, by rw [kr]; exact if_pos rfl⟩
theorem rdS_z {X X1 Y : Nat → Int → Int} {i : Nat} {k v : Int} {s : rST} (h : rdS X Y i s) (e : X1 = zU X (i + 12) k v) : rdS X1 Y i s := by
  obtain ⟨⟨sn, sa⟩, ⟨s18, s19⟩, st⟩ := h
  have o : ∀ z, z ≠ i + 12 → X1 z = X z := fun z hz => by rw [e, zU_o hz]
  have o0 := o i (by omega)
  refine ⟨⟨by rw [o0]; exact sn, ?_⟩, ⟨by rw [o0]; exact s18, by rw [o0, o _ (by omega)]; exact s19⟩, fun z => ?_⟩
  · unfold tkAt at sa ⊢
    rw [o0, o _ (by omega)]
    exact sa
  · rw [o0, o _ (by omega)]
    exact st z
theorem zr_o {X X1 Y : Nat → Int → Int} {i : Nat} {k v : Int} (e : X1 = zU X (i + 12) k v) : rdK X X1 Y Y i ∧ (oRd X i → oRd X1 i) ∧ X1 (i + 11) = X (i + 11) := by
  have o : ∀ z, z ≠ i + 12 → X1 z = X z := fun z hz => by rw [e, zU_o hz]
  exact ⟨⟨fun z _ _ h3 => o z h3, fun s _ => by rw [o _ (by omega)], fun _ _ => rfl⟩, fun r => oRd_k (o _ (by omega)) (by rw [o _ (by omega)]) (by rw [o _ (by omega)]) r, o _ (by omega)⟩
abbrev cX11_keepRow : ByteArray := prog_13_method_26_code
def yX11_keepRow : MethodName := ⟨RX11, "keepRow", "(II)V"⟩
theorem dX11_keepRow_0 : decode cX11_keepRow 0 = .ok (.aload_n 0, 1) := by decide +kernel
theorem dX11_keepRow_1 : decode cX11_keepRow 1 = .ok (.getfield 41, 3) := by decide +kernel
theorem dX11_keepRow_4 : decode cX11_keepRow 4 = .ok (.iconst 0, 1) := by decide +kernel
theorem dX11_keepRow_5 : decode cX11_keepRow 5 = .ok (.iaload, 1) := by decide +kernel
theorem dX11_keepRow_6 : decode cX11_keepRow 6 = .ok (.istore_n 3, 1) := by decide +kernel
theorem dX11_keepRow_7 : decode cX11_keepRow 7 = .ok (.iconst 0, 1) := by decide +kernel
theorem dX11_keepRow_8 : decode cX11_keepRow 8 = .ok (.istore 4, 2) := by decide +kernel
theorem dX11_keepRow_10 : decode cX11_keepRow 10 = .ok (.iload 4, 2) := by decide +kernel
theorem dX11_keepRow_12 : decode cX11_keepRow 12 = .ok (.iload_n 1, 1) := by decide +kernel
theorem dX11_keepRow_13 : decode cX11_keepRow 13 = .ok (.if_icmp .ge 34, 3) := by decide +kernel
theorem dX11_keepRow_16 : decode cX11_keepRow 16 = .ok (.iload_n 3, 1) := by decide +kernel
theorem dX11_keepRow_17 : decode cX11_keepRow 17 = .ok (.iload_n 2, 1) := by decide +kernel
theorem dX11_keepRow_18 : decode cX11_keepRow 18 = .ok (.if_icmp .ge 29, 3) := by decide +kernel
theorem dX11_keepRow_21 : decode cX11_keepRow 21 = .ok (.aload_n 0, 1) := by decide +kernel
theorem dX11_keepRow_22 : decode cX11_keepRow 22 = .ok (.getfield 41, 3) := by decide +kernel
theorem dX11_keepRow_25 : decode cX11_keepRow 25 = .ok (.iconst 1, 1) := by decide +kernel
theorem dX11_keepRow_26 : decode cX11_keepRow 26 = .ok (.iload_n 1, 1) := by decide +kernel
theorem dX11_keepRow_27 : decode cX11_keepRow 27 = .ok (.iload_n 3, 1) := by decide +kernel
theorem dX11_keepRow_28 : decode cX11_keepRow 28 = .ok (.imul, 1) := by decide +kernel
theorem dX11_keepRow_29 : decode cX11_keepRow 29 = .ok (.iadd, 1) := by decide +kernel
theorem dX11_keepRow_30 : decode cX11_keepRow 30 = .ok (.iload 4, 2) := by decide +kernel
theorem dX11_keepRow_32 : decode cX11_keepRow 32 = .ok (.iadd, 1) := by decide +kernel
theorem dX11_keepRow_33 : decode cX11_keepRow 33 = .ok (.aload_n 0, 1) := by decide +kernel
theorem dX11_keepRow_34 : decode cX11_keepRow 34 = .ok (.getfield 44, 3) := by decide +kernel
theorem dX11_keepRow_37 : decode cX11_keepRow 37 = .ok (.iload 4, 2) := by decide +kernel
theorem dX11_keepRow_39 : decode cX11_keepRow 39 = .ok (.iaload, 1) := by decide +kernel
theorem dX11_keepRow_40 : decode cX11_keepRow 40 = .ok (.iastore, 1) := by decide +kernel
theorem dX11_keepRow_41 : decode cX11_keepRow 41 = .ok (.iinc 4 1, 3) := by decide +kernel
theorem dX11_keepRow_44 : decode cX11_keepRow 44 = .ok (.goto (-34), 3) := by decide +kernel
theorem dX11_keepRow_47 : decode cX11_keepRow 47 = .ok (.aload_n 0, 1) := by decide +kernel
theorem dX11_keepRow_48 : decode cX11_keepRow 48 = .ok (.getfield 41, 3) := by decide +kernel
theorem dX11_keepRow_51 : decode cX11_keepRow 51 = .ok (.iconst 0, 1) := by decide +kernel
theorem dX11_keepRow_52 : decode cX11_keepRow 52 = .ok (.iload_n 2, 1) := by decide +kernel
theorem dX11_keepRow_53 : decode cX11_keepRow 53 = .ok (.iload_n 3, 1) := by decide +kernel
theorem dX11_keepRow_54 : decode cX11_keepRow 54 = .ok (.iconst 1, 1) := by decide +kernel
theorem dX11_keepRow_55 : decode cX11_keepRow 55 = .ok (.iadd, 1) := by decide +kernel
theorem dX11_keepRow_56 : decode cX11_keepRow 56 = .ok (.invokestatic 184, 3) := by decide +kernel
theorem dX11_keepRow_59 : decode cX11_keepRow 59 = .ok (.iastore, 1) := by decide +kernel
theorem dX11_keepRow_60 : decode cX11_keepRow 60 = .ok (.return_, 1) := by decide +kernel
def F_X11_keepRow (i : Nat) (X Y : Nat → Int → Int) (R : Nat → Int → Option Nat) (a : Int) (b : Int) : Prop := (∀ i j, rI (X i j)) → (∀ i j, rL (Y i j)) → (∃ q : Nat, (0 : Int) = q ∧ q ≤ a.toNat ∧ (0 < q → X (i + 11) 0 < b) ∧ (∀ z, z ≠ i + 11 → X z = X z) ∧ X (i + 11) = upS (X (i + 11)) (1 + a * X (i + 11) 0) (fun j => X (i + 12) j) q) ∧ (∀ (j : Int) (X2 : Nat → Int → Int), rI j → (∀ i j, rI (X2 i j)) → (∃ q : Nat, j = q ∧ q ≤ a.toNat ∧ (0 < q → X (i + 11) 0 < b) ∧ (∀ z, z ≠ i + 11 → X2 z = X z) ∧ X2 (i + 11) = upS (X (i + 11)) (1 + a * X (i + 11) 0) (fun j => X (i + 12) j) q) → (((a ≤ j) → ((rI ((X (i + 11) (0)) + 1)) ∧ (rI (min (b) ((X (i + 11) (0)) + 1)) → (∀ X6 : Nat → Int → Int, X6 = zU X2 (i + 11) (0) (min (b) ((X (i + 11) (0)) + 1)) → (∀ i j, rI (X6 i j)) → (krP X (X6) i (a) (b)))))) ∧ ((¬ (a ≤ j)) → ((rI (X (i + 11) (0))) ∧ (((b ≤ (X (i + 11) (0))) → ((rI ((X (i + 11) (0)) + 1)) ∧ (rI (min (b) ((X (i + 11) (0)) + 1)) → (∀ X11 : Nat → Int → Int, X11 = zU X2 (i + 11) (0) (min (b) ((X (i + 11) (0)) + 1)) → (∀ i j, rI (X11 i j)) → (krP X (X11) i (a) (b)))))) ∧ ((¬ (b ≤ (X (i + 11) (0)))) → ((0 ≤ j ∧ j < 4) ∧ ((0 ≤ ((1 + (a * (X (i + 11) (0)))) + j) ∧ ((1 + (a * (X (i + 11) (0)))) + j) < 183) ∧ (∀ X14 : Nat → Int → Int, X14 = zU X2 (i + 11) ((1 + (a * (X (i + 11) (0)))) + j) (X2 (i + 12) (j)) → (∀ i j, rI (X14 i j)) → ((rI (j + 1)) ∧ (∃ q : Nat, j + 1 = q ∧ q ≤ a.toNat ∧ (0 < q → X (i + 11) 0 < b) ∧ (∀ z, z ≠ i + 11 → X14 z = X z) ∧ X14 (i + 11) = upS (X (i + 11)) (1 + a * X (i + 11) 0) (fun j => X (i + 12) j) q) ∧ (((a - (j + 1)).toNat) < ((a - (j)).toNat))))))))))))
set_option maxHeartbeats 4000000 in
set_option maxRecDepth 100000 in
theorem w_X11_keepRow {l : Launch} {D : va_G} {cy : Nat → ClassId} {bs N : Nat} {sa : Nat → Nat} {kd len : Nat → Nat} {X Y : Nat → Int → Int} {R : Nat → Int → Option Nat} {i : Nat} (hM : zM N kd len R i) (a : Int) (ha : rI a) (b : Int) (hb : rI b) (hF : F_X11_keepRow i X Y R a b) : Met l yX11_keepRow (.code yX11_keepRow cX11_keepRow 5 none :: zTB) (zRm 1 21) (zPc D cy bs sa N kd len X Y R [.ref (bs + (i)), .int (zI (a)), .int (zI (b))]) (zQv D cy bs N kd len (fun st => st.2.1 = Y ∧ st.2.2 = R ∧ (krP X (st.1) i (a) (b)))) 0 0 (zA bs) := by
  refine zstart (by decide) (Nat.le_of_ble_eq_true rfl) ?_
  intro p e s m args below meth c ls C hE hH hr hlk hnm hl hargs
  have hF := hF hH.2.2.1 hH.2.2.2
  have hS : va_S (zA bs) s.heap s.heap [] := va_S.rf
  have hl : lv_has ls 5 [(0, .ref (bs + (i))), (1, .int (zI (a))), (2, .int (zI (b)))] := hl
  refine lv_aload_n C.1 C.2.1 dX11_keepRow_0 rfl (lv_at hl 0 rfl) ?_
  refine zg11_20 C hH (zM_n0 hM) (zM_k0 hM) q_1307 (zM_r11 hM) dX11_keepRow_1 ?_
  refine zd_iconst C dX11_keepRow_4 ?_
  refine zd_iald C hH (zM_n11 hM) (zM_k11 hM) (by decide) (by rw [zM_l11 hM]; decide) (by rw [zM_l11 hM]; decide) dX11_keepRow_5 ?_
  refine lv_istore_n (lv' := [(3, .int (zI (X (i + 11) (0)))), (0, .ref (bs + (i))), (1, .int (zI (a))), (2, .int (zI (b)))]) C.1 C.2.1 dX11_keepRow_6 rfl hl (by decide) rfl (fun ls hl => ?_)
  refine zd_iconst C dX11_keepRow_7 ?_
  refine lv_istore (lv' := [(4, .int (zI (0))), (3, .int (zI (X (i + 11) (0)))), (0, .ref (bs + (i))), (1, .int (zI (a))), (2, .int (zI (b)))]) C.1 C.2.1 dX11_keepRow_8 hl (by decide) rfl (fun ls hl => ?_)
  obtain ⟨hI1, hF⟩ := hF
  have L1 : ∀ (fu : Nat) (j : Int) (X2 : Nat → Int → Int), rI j → (∃ q : Nat, j = q ∧ q ≤ a.toNat ∧ (0 < q → X (i + 11) 0 < b) ∧ (∀ z, z ≠ i + 11 → X2 z = X z) ∧ X2 (i + 11) = upS (X (i + 11)) (1 + a * X (i + 11) 0) (fun j => X (i + 12) j) q) → ((a - (j)).toNat) < fu → ∀ (H : Heap) (locs : List Loc) (ls : Array Slot), zH D cy bs N kd len X2 Y R H → va_S (zA bs) s.heap H locs → lv_has ls 5 [(4, .int (zI (j))), (3, .int (zI (X (i + 11) (0)))), (0, .ref (bs + (i))), (1, .int (zI (a))), (2, .int (zI (b)))] → W p l e (zRm 1 21) s m args below meth c H locs 0 0 (MQ below (zQv D cy bs N kd len (fun st => st.2.1 = Y ∧ st.2.2 = R ∧ (krP X (st.1) i (a) (b)))) args s 0 0 (zA bs)) (F0 m 10 ls []) := by
    intro fu
    induction fu with
    | zero => intro j X2 _ _ hmu; exact absurd hmu (Nat.not_lt_zero _)
    | succ fu ih1 =>
      intro j X2 hj hI hmu1 H locs ls hH hS hl
      have hF := hF j X2 hj hH.2.2.1 hI
      refine lv_iload C.1 C.2.1 dX11_keepRow_10 (lv_at hl 0 rfl) ?_
      refine lv_iload_n C.1 C.2.1 dX11_keepRow_12 rfl (lv_at hl 3 rfl) ?_
      refine zd_icmp_ge C hj ha 47 dX11_keepRow_13 (by decide) (fun c3 => ?_) (fun c3 => ?_)
      · have hF := hF.1 c3
        refine lv_aload_n C.1 C.2.1 dX11_keepRow_47 rfl (lv_at hl 2 rfl) ?_
        refine zg11_20 C hH (zM_n0 hM) (zM_k0 hM) q_1307 (zM_r11 hM) dX11_keepRow_48 ?_
        refine zd_iconst C dX11_keepRow_51 ?_
        refine lv_iload_n C.1 C.2.1 dX11_keepRow_52 rfl (lv_at hl 4 rfl) ?_
        refine lv_iload_n C.1 C.2.1 dX11_keepRow_53 rfl (lv_at hl 1 rfl) ?_
        refine zd_iconst C dX11_keepRow_54 ?_
        refine zd_iadd C dX11_keepRow_55 ?_
        obtain ⟨o4, hF⟩ := hF
        refine zgoi (zrunS (As := [.int (zI (b)), .int (zI ((X (i + 11) (0)) + 1))]) (rest := [.int (zI (0)), .ref (bs + (i + 11))]) C hE hH hS hl.1 (c_X11_lesser (l := l)  (b) hb ((X (i + 11) (0)) + 1) o4) k_RX11_184 ⟨Nat.le_of_ble_eq_true rfl, Nat.le_of_ble_eq_true rfl⟩ rfl (Nat.le_of_ble_eq_true rfl) dX11_keepRow_56 ⟨Nat.zero_le _, Nat.zero_le _⟩) hS (fun rq Xq Yq Rq H locs hrq hq hH hS => ?_)
        obtain ⟨h91, h92⟩ := hq
        have h93 : Xq = X2 := congrArg (fun z => z.1) h92
        have h94 : Yq = Y := congrArg (fun z => z.2.1) h92
        have h95 : Rq = R := congrArg (fun z => z.2.2) h92
        rw [h93, h94, h95] at hH
        subst h91
        have hr5 := hrq
        have hF := hF hr5
        refine zd_iast C hH hS (zM_n11 hM) (zM_k11 hM) (by decide) (by rw [zM_l11 hM]; decide) (by rw [zM_l11 hM]; decide) hr5 dX11_keepRow_59 (fun H locs hH hS => ?_)
        obtain ⟨X6, eX6⟩ : ∃ z, z = zU X2 (i + 11) (0) (min (b) ((X (i + 11) (0)) + 1)) := ⟨_, rfl⟩
        rw [← eX6] at hH
        have hF := hF X6 eX6 hH.2.2.1
        exact zd_vret C hr hlk hH hS (⟨rfl, rfl, hF⟩) dX11_keepRow_60
      · have hF := hF.2 c3
        refine lv_iload_n C.1 C.2.1 dX11_keepRow_16 rfl (lv_at hl 1 rfl) ?_
        refine lv_iload_n C.1 C.2.1 dX11_keepRow_17 rfl (lv_at hl 4 rfl) ?_
        obtain ⟨o8, hF⟩ := hF
        refine zd_icmp_ge C o8 hb 47 dX11_keepRow_18 (by decide) (fun c7 => ?_) (fun c7 => ?_)
        · have hF := hF.1 c7
          refine lv_aload_n C.1 C.2.1 dX11_keepRow_47 rfl (lv_at hl 2 rfl) ?_
          refine zg11_20 C hH (zM_n0 hM) (zM_k0 hM) q_1307 (zM_r11 hM) dX11_keepRow_48 ?_
          refine zd_iconst C dX11_keepRow_51 ?_
          refine lv_iload_n C.1 C.2.1 dX11_keepRow_52 rfl (lv_at hl 4 rfl) ?_
          refine lv_iload_n C.1 C.2.1 dX11_keepRow_53 rfl (lv_at hl 1 rfl) ?_
          refine zd_iconst C dX11_keepRow_54 ?_
          refine zd_iadd C dX11_keepRow_55 ?_
          obtain ⟨o9, hF⟩ := hF
          refine zgoi (zrunS (As := [.int (zI (b)), .int (zI ((X (i + 11) (0)) + 1))]) (rest := [.int (zI (0)), .ref (bs + (i + 11))]) C hE hH hS hl.1 (c_X11_lesser (l := l)  (b) hb ((X (i + 11) (0)) + 1) o9) k_RX11_184 ⟨Nat.le_of_ble_eq_true rfl, Nat.le_of_ble_eq_true rfl⟩ rfl (Nat.le_of_ble_eq_true rfl) dX11_keepRow_56 ⟨Nat.zero_le _, Nat.zero_le _⟩) hS (fun rq Xq Yq Rq H locs hrq hq hH hS => ?_)
          obtain ⟨h91, h92⟩ := hq
          have h93 : Xq = X2 := congrArg (fun z => z.1) h92
          have h94 : Yq = Y := congrArg (fun z => z.2.1) h92
          have h95 : Rq = R := congrArg (fun z => z.2.2) h92
          rw [h93, h94, h95] at hH
          subst h91
          have hr10 := hrq
          have hF := hF hr10
          refine zd_iast C hH hS (zM_n11 hM) (zM_k11 hM) (by decide) (by rw [zM_l11 hM]; decide) (by rw [zM_l11 hM]; decide) hr10 dX11_keepRow_59 (fun H locs hH hS => ?_)
          obtain ⟨X11, eX11⟩ : ∃ z, z = zU X2 (i + 11) (0) (min (b) ((X (i + 11) (0)) + 1)) := ⟨_, rfl⟩
          rw [← eX11] at hH
          have hF := hF X11 eX11 hH.2.2.1
          exact zd_vret C hr hlk hH hS (⟨rfl, rfl, hF⟩) dX11_keepRow_60
        · have hF := hF.2 c7
          refine lv_aload_n C.1 C.2.1 dX11_keepRow_21 rfl (lv_at hl 2 rfl) ?_
          refine zg11_20 C hH (zM_n0 hM) (zM_k0 hM) q_1307 (zM_r11 hM) dX11_keepRow_22 ?_
          refine zd_iconst C dX11_keepRow_25 ?_
          refine lv_iload_n C.1 C.2.1 dX11_keepRow_26 rfl (lv_at hl 3 rfl) ?_
          refine lv_iload_n C.1 C.2.1 dX11_keepRow_27 rfl (lv_at hl 1 rfl) ?_
          refine zd_imul C dX11_keepRow_28 ?_
          refine zd_iadd C dX11_keepRow_29 ?_
          refine lv_iload C.1 C.2.1 dX11_keepRow_30 (lv_at hl 0 rfl) ?_
          refine zd_iadd C dX11_keepRow_32 ?_
          refine lv_aload_n C.1 C.2.1 dX11_keepRow_33 rfl (lv_at hl 2 rfl) ?_
          refine zg11_21 C hH (zM_n0 hM) (zM_k0 hM) q_1308 (zM_r12 hM) dX11_keepRow_34 ?_
          refine lv_iload C.1 C.2.1 dX11_keepRow_37 (lv_at hl 0 rfl) ?_
          obtain ⟨o12, hF⟩ := hF
          refine zd_iald C hH (zM_n12 hM) (zM_k12 hM) o12.1 (by rw [zM_l12 hM]; exact o12.2) (by rw [zM_l12 hM]; decide) dX11_keepRow_39 ?_
          obtain ⟨o13, hF⟩ := hF
          refine zd_iast C hH hS (zM_n11 hM) (zM_k11 hM) o13.1 (by rw [zM_l11 hM]; exact o13.2) (by rw [zM_l11 hM]; decide) (hH.2.2.1 _ _) dX11_keepRow_40 (fun H locs hH hS => ?_)
          obtain ⟨X14, eX14⟩ : ∃ z, z = zU X2 (i + 11) ((1 + (a * (X (i + 11) (0)))) + j) (X2 (i + 12) (j)) := ⟨_, rfl⟩
          rw [← eX14] at hH
          have hF := hF X14 eX14 hH.2.2.1
          refine zd_iinc (k := 0) (lv' := [(4, .int (zI (j + 1))), (3, .int (zI (X (i + 11) (0)))), (0, .ref (bs + (i))), (1, .int (zI (a))), (2, .int (zI (b)))]) C hl rfl dX11_keepRow_41 (by decide) rfl (fun ls hl => ?_)
          refine lv_goto (tgt := 10) C.1 C.2.1 dX11_keepRow_44 (by decide) ?_
          obtain ⟨o15, hF⟩ := hF
          exact ih1 (j + 1) X14 o15 hF.1 (Nat.lt_of_lt_of_le hF.2 (Nat.le_of_lt_succ hmu1)) _ _ _ hH hS (lv_sub hl [0, 1, 2, 3, 4] rfl)
  exact L1 (((a - ((0 : Int))).toNat) + 1) ((0 : Int)) X (by decide) hI1 (Nat.lt_succ_self _) _ _ _ hH hS (lv_sub hl [0, 1, 2, 3, 4] rfl)
theorem v_X11_keepRow {X Y : Nat → Int → Int} {R : Nat → Int → Option Nat} {i : Nat} (a : Int) (ha : rI a) (b : Int) (hb : rI b) (hp : (0 ≤ X (i + 11) 0 ∧ X (i + 11) 0 ≤ b) ∧ (1 ≤ a ∧ a ≤ 4) ∧ (0 ≤ b ∧ b ≤ 40) ∧ (a) * (b) ≤ 100 ∧ ((a) * (X (i + 11) 0) ≤ (a) * (b) - (a) ∨ b = X (i + 11) 0) ∧ 0 ≤ (a) * (X (i + 11) 0)) : F_X11_keepRow i X Y R a b := by
  unfold F_X11_keepRow
  intro hX hY
  obtain ⟨h0, ha, hb, hab, hx, hy⟩ := hp
  refine ⟨?_, ?_⟩
  · exact ⟨0, rfl, Nat.zero_le _, fun h => absurd h (Nat.lt_irrefl _), fun _ _ => rfl, rfl⟩
  intro j X2
  intro _
  intro rX2
  intro h1
  obtain ⟨q, hq, q2, q0, o, hr⟩ := h1
  subst hq
  refine ⟨?_, ?_⟩
  · intro c1
    refine ⟨?_, ?_⟩
    · first | omega | exact ⟨by omega, by omega⟩ | decide | assumption | exact ⟨by omega, by omega, by omega⟩ | exact ⟨by decide, by decide⟩
    intro _
    intro X6
    intro eX6
    intro rX6
    have e : q = a.toNat := by omega
    subst e
    refine ⟨fun z hz => by rw [eX6, zU_o hz]; exact o z hz, ?_⟩
    rw [eX6, zU_up, hr, if_pos (q0 (by omega))]
  intro c2
  have e0 : X2 (i + 11) 0 = X (i + 11) 0 := by
    rw [hr]
    exact upS_n q (by omega)
  refine ⟨?_, ?_⟩
  · first | omega | exact ⟨by omega, by omega⟩ | decide | assumption | exact ⟨by omega, by omega, by omega⟩ | exact ⟨by decide, by decide⟩
  refine ⟨?_, ?_⟩
  · intro c3
    refine ⟨?_, ?_⟩
    · first | omega | exact ⟨by omega, by omega⟩ | decide | assumption | exact ⟨by omega, by omega, by omega⟩ | exact ⟨by decide, by decide⟩
    intro _
    intro X11
    intro eX11
    intro rX11
    have e : q = 0 := by
      by_cases g : 0 < q
      · have := q0 g
        omega
      · omega
    subst e
    refine ⟨fun z hz => by rw [eX11, zU_o hz]; exact o z hz, ?_⟩
    rw [eX11, zU_up, hr, if_neg (by omega)]
    rfl
  intro c4
  refine ⟨?_, ?_⟩
  · first | omega | exact ⟨by omega, by omega⟩ | decide | assumption | exact ⟨by omega, by omega, by omega⟩ | exact ⟨by decide, by decide⟩
  refine ⟨?_, ?_⟩
  · first | omega | exact ⟨by omega, by omega⟩ | decide | assumption | exact ⟨by omega, by omega, by omega⟩ | exact ⟨by decide, by decide⟩
  intro X14
  intro eX14
  intro rX14
  refine ⟨?_, ?_⟩
  · first | omega | exact ⟨by omega, by omega⟩ | decide | assumption | exact ⟨by omega, by omega, by omega⟩ | exact ⟨by decide, by decide⟩
  refine ⟨?_, ?_⟩
  · refine ⟨q + 1, by omega, by omega, fun _ => by omega, fun z hz => by rw [eX14, zU_o hz]; exact o z hz, ?_⟩
    rw [eX14, zU_up, hr, o (i + 12) (by omega)]
    rfl
  first | omega | exact ⟨by omega, by omega⟩ | decide | assumption | exact ⟨by omega, by omega, by omega⟩ | exact ⟨by decide, by decide⟩
theorem c_X11_keepRow {l : Launch} {D : va_G} {cy : Nat → ClassId} {bs N : Nat} {sa : Nat → Nat} {kd len : Nat → Nat} {X Y : Nat → Int → Int} {R : Nat → Int → Option Nat} {i : Nat} (hM : zM N kd len R i) (a : Int) (ha : rI a) (b : Int) (hb : rI b) (hp : (0 ≤ X (i + 11) 0 ∧ X (i + 11) 0 ≤ b) ∧ (1 ≤ a ∧ a ≤ 4) ∧ (0 ≤ b ∧ b ≤ 40) ∧ (a) * (b) ≤ 100 ∧ ((a) * (X (i + 11) 0) ≤ (a) * (b) - (a) ∨ b = X (i + 11) 0) ∧ 0 ≤ (a) * (X (i + 11) 0)) : Met l yX11_keepRow (.code yX11_keepRow cX11_keepRow 5 none :: zTB) (zRm 1 21) (zPc D cy bs sa N kd len X Y R [.ref (bs + (i)), .int (zI (a)), .int (zI (b))]) (zQv D cy bs N kd len (fun st => st.2.1 = Y ∧ st.2.2 = R ∧ (krP X (st.1) i (a) (b)))) 0 0 (zA bs) := w_X11_keepRow hM a ha b hb (v_X11_keepRow a ha b hb hp)
abbrev cX11_feedLine : ByteArray := prog_13_method_27_code
def yX11_feedLine : MethodName := ⟨RX11, "feedLine", "(JI)Z"⟩
theorem dX11_feedLine_0 : decode cX11_feedLine 0 = .ok (.lload_n 1, 1) := by decide +kernel
theorem dX11_feedLine_1 : decode cX11_feedLine 1 = .ok (.ldc2_w 202, 3) := by decide +kernel
theorem dX11_feedLine_4 : decode cX11_feedLine 4 = .ok (.lcmp, 1) := by decide +kernel
theorem dX11_feedLine_5 : decode cX11_feedLine 5 = .ok (.ifCond .ne 7, 3) := by decide +kernel
theorem dX11_feedLine_8 : decode cX11_feedLine 8 = .ok (.iconst 0, 1) := by decide +kernel
theorem dX11_feedLine_9 : decode cX11_feedLine 9 = .ok (.goto 40, 3) := by decide +kernel
theorem dX11_feedLine_12 : decode cX11_feedLine 12 = .ok (.lload_n 1, 1) := by decide +kernel
theorem dX11_feedLine_13 : decode cX11_feedLine 13 = .ok (.ldc2_w 204, 3) := by decide +kernel
theorem dX11_feedLine_16 : decode cX11_feedLine 16 = .ok (.lcmp, 1) := by decide +kernel
theorem dX11_feedLine_17 : decode cX11_feedLine 17 = .ok (.ifCond .ne 7, 3) := by decide +kernel
theorem dX11_feedLine_20 : decode cX11_feedLine 20 = .ok (.iconst 1, 1) := by decide +kernel
theorem dX11_feedLine_21 : decode cX11_feedLine 21 = .ok (.goto 28, 3) := by decide +kernel
theorem dX11_feedLine_24 : decode cX11_feedLine 24 = .ok (.lload_n 1, 1) := by decide +kernel
theorem dX11_feedLine_25 : decode cX11_feedLine 25 = .ok (.ldc2_w 206, 3) := by decide +kernel
theorem dX11_feedLine_28 : decode cX11_feedLine 28 = .ok (.lcmp, 1) := by decide +kernel
theorem dX11_feedLine_29 : decode cX11_feedLine 29 = .ok (.ifCond .ne 7, 3) := by decide +kernel
theorem dX11_feedLine_32 : decode cX11_feedLine 32 = .ok (.iconst 2, 1) := by decide +kernel
theorem dX11_feedLine_33 : decode cX11_feedLine 33 = .ok (.goto 16, 3) := by decide +kernel
theorem dX11_feedLine_36 : decode cX11_feedLine 36 = .ok (.lload_n 1, 1) := by decide +kernel
theorem dX11_feedLine_37 : decode cX11_feedLine 37 = .ok (.ldc2_w 165, 3) := by decide +kernel
theorem dX11_feedLine_40 : decode cX11_feedLine 40 = .ok (.lcmp, 1) := by decide +kernel
theorem dX11_feedLine_41 : decode cX11_feedLine 41 = .ok (.ifCond .ne 7, 3) := by decide +kernel
theorem dX11_feedLine_44 : decode cX11_feedLine 44 = .ok (.iconst 3, 1) := by decide +kernel
theorem dX11_feedLine_45 : decode cX11_feedLine 45 = .ok (.goto 4, 3) := by decide +kernel
theorem dX11_feedLine_48 : decode cX11_feedLine 48 = .ok (.iconst (-1), 1) := by decide +kernel
theorem dX11_feedLine_49 : decode cX11_feedLine 49 = .ok (.istore 4, 2) := by decide +kernel
theorem dX11_feedLine_51 : decode cX11_feedLine 51 = .ok (.iload 4, 2) := by decide +kernel
theorem dX11_feedLine_53 : decode cX11_feedLine 53 = .ok (.iconst (-1), 1) := by decide +kernel
theorem dX11_feedLine_54 : decode cX11_feedLine 54 = .ok (.if_icmp .ne 8, 3) := by decide +kernel
theorem dX11_feedLine_57 : decode cX11_feedLine 57 = .ok (.aload_n 0, 1) := by decide +kernel
theorem dX11_feedLine_58 : decode cX11_feedLine 58 = .ok (.invokevirtual 140, 3) := by decide +kernel
theorem dX11_feedLine_61 : decode cX11_feedLine 61 = .ok (.ireturn, 1) := by decide +kernel
theorem dX11_feedLine_62 : decode cX11_feedLine 62 = .ok (.aload_n 0, 1) := by decide +kernel
theorem dX11_feedLine_63 : decode cX11_feedLine 63 = .ok (.iconst 0, 1) := by decide +kernel
theorem dX11_feedLine_64 : decode cX11_feedLine 64 = .ok (.bipush 40, 2) := by decide +kernel
theorem dX11_feedLine_66 : decode cX11_feedLine 66 = .ok (.iload_n 3, 1) := by decide +kernel
theorem dX11_feedLine_67 : decode cX11_feedLine 67 = .ok (.invokevirtual 177, 3) := by decide +kernel
theorem dX11_feedLine_70 : decode cX11_feedLine 70 = .ok (.aload_n 0, 1) := by decide +kernel
theorem dX11_feedLine_71 : decode cX11_feedLine 71 = .ok (.invokevirtual 152, 3) := by decide +kernel
theorem dX11_feedLine_74 : decode cX11_feedLine 74 = .ok (.aload_n 0, 1) := by decide +kernel
theorem dX11_feedLine_75 : decode cX11_feedLine 75 = .ok (.iconst 1, 1) := by decide +kernel
theorem dX11_feedLine_76 : decode cX11_feedLine 76 = .ok (.iload 4, 2) := by decide +kernel
theorem dX11_feedLine_78 : decode cX11_feedLine 78 = .ok (.iconst 3, 1) := by decide +kernel
theorem dX11_feedLine_79 : decode cX11_feedLine 79 = .ok (.if_icmp .ne 7, 3) := by decide +kernel
theorem dX11_feedLine_82 : decode cX11_feedLine 82 = .ok (.iconst 0, 1) := by decide +kernel
theorem dX11_feedLine_83 : decode cX11_feedLine 83 = .ok (.goto 4, 3) := by decide +kernel
theorem dX11_feedLine_86 : decode cX11_feedLine 86 = .ok (.iconst 1, 1) := by decide +kernel
theorem dX11_feedLine_87 : decode cX11_feedLine 87 = .ok (.iload 4, 2) := by decide +kernel
theorem dX11_feedLine_89 : decode cX11_feedLine 89 = .ok (.iconst 3, 1) := by decide +kernel
theorem dX11_feedLine_90 : decode cX11_feedLine 90 = .ok (.if_icmp .ne 7, 3) := by decide +kernel
theorem dX11_feedLine_93 : decode cX11_feedLine 93 = .ok (.iconst 1, 1) := by decide +kernel
theorem dX11_feedLine_94 : decode cX11_feedLine 94 = .ok (.goto 5, 3) := by decide +kernel
theorem dX11_feedLine_97 : decode cX11_feedLine 97 = .ok (.bipush 14, 2) := by decide +kernel
theorem dX11_feedLine_99 : decode cX11_feedLine 99 = .ok (.invokevirtual 181, 3) := by decide +kernel
theorem dX11_feedLine_102 : decode cX11_feedLine 102 = .ok (.ifCond .ne 5, 3) := by decide +kernel
theorem dX11_feedLine_105 : decode cX11_feedLine 105 = .ok (.iconst 0, 1) := by decide +kernel
theorem dX11_feedLine_106 : decode cX11_feedLine 106 = .ok (.ireturn, 1) := by decide +kernel
theorem dX11_feedLine_107 : decode cX11_feedLine 107 = .ok (.aload_n 0, 1) := by decide +kernel
theorem dX11_feedLine_108 : decode cX11_feedLine 108 = .ok (.getfield 44, 3) := by decide +kernel
theorem dX11_feedLine_111 : decode cX11_feedLine 111 = .ok (.iconst 0, 1) := by decide +kernel
theorem dX11_feedLine_112 : decode cX11_feedLine 112 = .ok (.iload 4, 2) := by decide +kernel
theorem dX11_feedLine_114 : decode cX11_feedLine 114 = .ok (.iastore, 1) := by decide +kernel
theorem dX11_feedLine_115 : decode cX11_feedLine 115 = .ok (.aload_n 0, 1) := by decide +kernel
theorem dX11_feedLine_116 : decode cX11_feedLine 116 = .ok (.iconst 2, 1) := by decide +kernel
theorem dX11_feedLine_117 : decode cX11_feedLine 117 = .ok (.bipush 40, 2) := by decide +kernel
theorem dX11_feedLine_119 : decode cX11_feedLine 119 = .ok (.invokevirtual 208, 3) := by decide +kernel
theorem dX11_feedLine_122 : decode cX11_feedLine 122 = .ok (.iconst 1, 1) := by decide +kernel
theorem dX11_feedLine_123 : decode cX11_feedLine 123 = .ok (.ireturn, 1) := by decide +kernel
theorem q_1588 : Cond.methodLink RX11 208 yX11_keepRow ∈ zTB := zmem 1588 (by decide +kernel) rfl
theorem q_1590 : Cond.instanceMethod yX11_keepRow ∈ zTB := zmem 1590 (by decide +kernel) rfl
theorem q_51 : Cond.selects RX11 yX11_keepRow yX11_keepRow ∈ zTB := zmem 51 (by decide +kernel) rfl
theorem q_1591 : Cond.code yX11_keepRow cX11_keepRow 5 none ∈ zTB := zmem 1591 (by decide +kernel) rfl
theorem k_RX11_208 : zLv RX11 208 RX11 yX11_keepRow cX11_keepRow 5 none 2 := ⟨⟨q_1588, q_1590, q_51, q_140, q_1591⟩, rfl, ⟨by decide, by decide⟩, by decide +kernel⟩
theorem q_1585 : Cond.constantLong RX11 202 (zL (1751474532)) ∈ zTB := zmem 1585 (by decide +kernel) rfl
theorem q_1586 : Cond.constantLong RX11 204 (zL (1651467385)) ∈ zTB := zmem 1586 (by decide +kernel) rfl
theorem q_1587 : Cond.constantLong RX11 206 (zL (1685221232)) ∈ zTB := zmem 1587 (by decide +kernel) rfl
def F_X11_feedLine (i : Nat) (X Y : Nat → Int → Int) (R : Nat → Int → Option Nat) (a : Int) (b : Int) : Prop := (∀ i j, rI (X i j)) → (∀ i j, rL (Y i j)) → (∀ (dd : Int), rI dd → (dd = kwN 2 a) → (((¬ dd = (-1)) → ((0 ≤ (0 : Int) ∧ (0 : Int) < 183) ∧ (∀ X3 : Nat → Int → Int, (∀ i j, rI (X3 i j)) → ((X3) = if (40 : Int) ≤ X (i + 11) ((0 : Int)) then adF X i 3 (b) else X) → ((oRd X3 i) ∧ (∀ X5 : Nat → Int → Int, (∀ i j, rI (X5 i j)) → ∀ Y6 : Nat → Int → Int, (∀ i j, rL (Y6 i j)) → (tkC X3 (X5) Y (Y6) i ∧ (X5) i 11 = tkN (X3 (i + 1)) (X3 i 12).toNat (X3 i 11).toNat ∧ (X5) i 13 = tkB (X3 (i + 1)) (X3 i 12).toNat (X3 i 11).toNat ∧ (X5) i 14 = tkS (X3 (i + 1)) (X3 i 12).toNat (X3 i 11).toNat ∧ ((X5) i 14 = 3 → (X5) i 15 = tkV (X3 (i + 1)) (X3 i 12).toNat (X3 i 11).toNat) ∧ ((X5) i 14 = 2 → (Y6) i 16 = tkW (X3 (i + 1)) (X3 i 12).toNat (X3 i 11).toNat)) → (((¬ dd = 3) → (((¬ dd = 3) → ((oRd X5 i ∧ 0 ≤ (1 : Int) ∧ (1 : Int) < 4) ∧ (∀ r12 : Bool, ∀ X10 : Nat → Int → Int, (∀ i j, rI (X10 i j)) → ∀ Y11 : Nat → Int → Int, (∀ i j, rL (Y11 i j)) → (r12 = decide (X5 i 14 = 3) ∧ (r12 = false → (X10) = zU X5 i 17 (X5 i 13) ∧ (Y11) = Y6) ∧ (r12 = true → tkC (tbX X5 i ((1 : Int)) ((1 : Int)) ((14 : Int)) (-1)) (X10) Y6 (Y11) i ∧ tkAt (X10) (Y11) i (X5 i 11).toNat ∧ oRd (X10) i)) → (((r12 = true) → (∀ X14 : Nat → Int → Int, X14 = zU X10 (i + 12) (0) (dd) → (∀ i j, rI (X14 i j)) → (((0 ≤ X14 (i + 11) 0 ∧ X14 (i + 11) 0 ≤ (40 : Int)) ∧ (1 ≤ (2 : Int) ∧ (2 : Int) ≤ 4) ∧ (0 ≤ (40 : Int) ∧ (40 : Int) ≤ 40) ∧ ((2 : Int)) * ((40 : Int)) ≤ 100 ∧ (((2 : Int)) * (X14 (i + 11) 0) ≤ ((2 : Int)) * ((40 : Int)) - ((2 : Int)) ∨ (40 : Int) = X14 (i + 11) 0) ∧ 0 ≤ ((2 : Int)) * (X14 (i + 11) 0)) ∧ (∀ X16 : Nat → Int → Int, (∀ i j, rI (X16 i j)) → (krP X14 (X16) i ((2 : Int)) ((40 : Int))) → (lnP 2 (a) (b) X (X16) Y (Y11) i true))))) ∧ ((r12 = false) → (lnP 2 (a) (b) X (X10) Y (Y11) i false)))))) ∧ ((¬ (¬ dd = 3)) → ((oRd X5 i ∧ 0 ≤ (1 : Int) ∧ (1 : Int) < 4) ∧ (∀ r20 : Bool, ∀ X18 : Nat → Int → Int, (∀ i j, rI (X18 i j)) → ∀ Y19 : Nat → Int → Int, (∀ i j, rL (Y19 i j)) → (r20 = decide (X5 i 14 = 3) ∧ (r20 = false → (X18) = zU X5 i 17 (X5 i 13) ∧ (Y19) = Y6) ∧ (r20 = true → tkC (tbX X5 i ((1 : Int)) ((1 : Int)) ((1 : Int)) (-1)) (X18) Y6 (Y19) i ∧ tkAt (X18) (Y19) i (X5 i 11).toNat ∧ oRd (X18) i)) → (((r20 = true) → (∀ X22 : Nat → Int → Int, X22 = zU X18 (i + 12) (0) (dd) → (∀ i j, rI (X22 i j)) → (((0 ≤ X22 (i + 11) 0 ∧ X22 (i + 11) 0 ≤ (40 : Int)) ∧ (1 ≤ (2 : Int) ∧ (2 : Int) ≤ 4) ∧ (0 ≤ (40 : Int) ∧ (40 : Int) ≤ 40) ∧ ((2 : Int)) * ((40 : Int)) ≤ 100 ∧ (((2 : Int)) * (X22 (i + 11) 0) ≤ ((2 : Int)) * ((40 : Int)) - ((2 : Int)) ∨ (40 : Int) = X22 (i + 11) 0) ∧ 0 ≤ ((2 : Int)) * (X22 (i + 11) 0)) ∧ (∀ X24 : Nat → Int → Int, (∀ i j, rI (X24 i j)) → (krP X22 (X24) i ((2 : Int)) ((40 : Int))) → (lnP 2 (a) (b) X (X24) Y (Y19) i true))))) ∧ ((r20 = false) → (lnP 2 (a) (b) X (X18) Y (Y19) i false)))))))) ∧ ((¬ (¬ dd = 3)) → (((¬ dd = 3) → ((oRd X5 i ∧ 0 ≤ (1 : Int) ∧ (1 : Int) < 4) ∧ (∀ r29 : Bool, ∀ X27 : Nat → Int → Int, (∀ i j, rI (X27 i j)) → ∀ Y28 : Nat → Int → Int, (∀ i j, rL (Y28 i j)) → (r29 = decide (X5 i 14 = 3) ∧ (r29 = false → (X27) = zU X5 i 17 (X5 i 13) ∧ (Y28) = Y6) ∧ (r29 = true → tkC (tbX X5 i ((1 : Int)) ((0 : Int)) ((14 : Int)) (-1)) (X27) Y6 (Y28) i ∧ tkAt (X27) (Y28) i (X5 i 11).toNat ∧ oRd (X27) i)) → (((r29 = true) → (∀ X31 : Nat → Int → Int, X31 = zU X27 (i + 12) (0) (dd) → (∀ i j, rI (X31 i j)) → (((0 ≤ X31 (i + 11) 0 ∧ X31 (i + 11) 0 ≤ (40 : Int)) ∧ (1 ≤ (2 : Int) ∧ (2 : Int) ≤ 4) ∧ (0 ≤ (40 : Int) ∧ (40 : Int) ≤ 40) ∧ ((2 : Int)) * ((40 : Int)) ≤ 100 ∧ (((2 : Int)) * (X31 (i + 11) 0) ≤ ((2 : Int)) * ((40 : Int)) - ((2 : Int)) ∨ (40 : Int) = X31 (i + 11) 0) ∧ 0 ≤ ((2 : Int)) * (X31 (i + 11) 0)) ∧ (∀ X33 : Nat → Int → Int, (∀ i j, rI (X33 i j)) → (krP X31 (X33) i ((2 : Int)) ((40 : Int))) → (lnP 2 (a) (b) X (X33) Y (Y28) i true))))) ∧ ((r29 = false) → (lnP 2 (a) (b) X (X27) Y (Y28) i false)))))) ∧ ((¬ (¬ dd = 3)) → ((oRd X5 i ∧ 0 ≤ (1 : Int) ∧ (1 : Int) < 4) ∧ (∀ r37 : Bool, ∀ X35 : Nat → Int → Int, (∀ i j, rI (X35 i j)) → ∀ Y36 : Nat → Int → Int, (∀ i j, rL (Y36 i j)) → (r37 = decide (X5 i 14 = 3) ∧ (r37 = false → (X35) = zU X5 i 17 (X5 i 13) ∧ (Y36) = Y6) ∧ (r37 = true → tkC (tbX X5 i ((1 : Int)) ((0 : Int)) ((1 : Int)) (-1)) (X35) Y6 (Y36) i ∧ tkAt (X35) (Y36) i (X5 i 11).toNat ∧ oRd (X35) i)) → (((r37 = true) → (∀ X39 : Nat → Int → Int, X39 = zU X35 (i + 12) (0) (dd) → (∀ i j, rI (X39 i j)) → (((0 ≤ X39 (i + 11) 0 ∧ X39 (i + 11) 0 ≤ (40 : Int)) ∧ (1 ≤ (2 : Int) ∧ (2 : Int) ≤ 4) ∧ (0 ≤ (40 : Int) ∧ (40 : Int) ≤ 40) ∧ ((2 : Int)) * ((40 : Int)) ≤ 100 ∧ (((2 : Int)) * (X39 (i + 11) 0) ≤ ((2 : Int)) * ((40 : Int)) - ((2 : Int)) ∨ (40 : Int) = X39 (i + 11) 0) ∧ 0 ≤ ((2 : Int)) * (X39 (i + 11) 0)) ∧ (∀ X41 : Nat → Int → Int, (∀ i j, rI (X41 i j)) → (krP X39 (X41) i ((2 : Int)) ((40 : Int))) → (lnP 2 (a) (b) X (X41) Y (Y36) i true))))) ∧ ((r37 = false) → (lnP 2 (a) (b) X (X35) Y (Y36) i false)))))))))))))) ∧ ((¬ (¬ dd = (-1))) → (∀ r43 : Bool, ∀ X42 : Nat → Int → Int, (∀ i j, rI (X42 i j)) → (r43 = false ∧ (X42) = zU X i 17 (X i 13)) → (lnP 2 (a) (b) X (X42) Y (Y) i r43))))) ∧ (((¬ a = (1751474532)) → (((¬ a = (1651467385)) → (((¬ a = (1685221232)) → (((¬ a = (1920298085)) → ((-1 : Int) = kwN 2 a)) ∧ ((¬ (¬ a = (1920298085))) → ((3 : Int) = kwN 2 a)))) ∧ ((¬ (¬ a = (1685221232))) → ((2 : Int) = kwN 2 a)))) ∧ ((¬ (¬ a = (1651467385))) → ((1 : Int) = kwN 2 a)))) ∧ ((¬ (¬ a = (1751474532))) → ((0 : Int) = kwN 2 a)))
set_option maxHeartbeats 4000000 in
set_option maxRecDepth 100000 in
theorem w_X11_feedLine {l : Launch} {D : va_G} {cy : Nat → ClassId} {bs N : Nat} {sa : Nat → Nat} {kd len : Nat → Nat} {X Y : Nat → Int → Int} {R : Nat → Int → Option Nat} {i : Nat} (hM : zM N kd len R i) (a : Int) (ha : rL a) (b : Int) (hb : rI b) (hF : F_X11_feedLine i X Y R a b) : Met l yX11_feedLine (.code yX11_feedLine cX11_feedLine 5 (some .boolean) :: zTB) (zRm 4 91) (zPc D cy bs sa N kd len X Y R [.ref (bs + (i)), .long (zL (a)), .int (zI (b))]) (zQi D cy bs N kd len (fun r st => st.2.2 = R ∧ ∃ rb : Bool, r = bz rb ∧ (lnP 2 (a) (b) X (st.1) Y (st.2.1) i rb))) 0 0 (zA bs) := by
  refine zstart (by decide) (Nat.le_of_ble_eq_true rfl) ?_
  intro p e s m args below meth c ls C hE hH hr hlk hnm hl hargs
  have hF := hF hH.2.2.1 hH.2.2.2
  have hS : va_S (zA bs) s.heap s.heap [] := va_S.rf
  have hl : lv_has ls 5 [(0, .ref (bs + (i))), (1, .long (zL (a))), (3, .int (zI (b)))] := hl
  have J1 : ∀ (dd : Int), rI dd → (dd = kwN 2 a) → ∀ (H : Heap) (locs : List Loc) (ls : Array Slot), zH D cy bs N kd len X Y R H → va_S (zA bs) s.heap H locs → lv_has ls 5 [(4, .int (zI (dd))), (0, .ref (bs + (i))), (1, .long (zL (a))), (3, .int (zI (b)))] → W p l e (zRm 4 91) s m args below meth c H locs 0 0 (MQ below (zQi D cy bs N kd len (fun r st => st.2.2 = R ∧ ∃ rb : Bool, r = bz rb ∧ (lnP 2 (a) (b) X (st.1) Y (st.2.1) i rb))) args s 0 0 (zA bs)) (F0 m 51 ls []) := by
    intro dd hdd hI H locs ls hH hS hl
    have hF := hF.1 dd hdd  hI
    refine lv_iload C.1 C.2.1 dX11_feedLine_51 (lv_at hl 0 rfl) ?_
    refine zd_iconst C dX11_feedLine_53 ?_
    refine zd_icmp_ne C hdd (by decide) 62 dX11_feedLine_54 (by decide) (fun c1 => ?_) (fun c1 => ?_)
    · have hF := hF.1 c1
      refine lv_aload_n C.1 C.2.1 dX11_feedLine_62 rfl (lv_at hl 1 rfl) ?_
      refine zd_iconst C dX11_feedLine_63 ?_
      refine zd_bipush C (by decide) dX11_feedLine_64 ?_
      refine lv_iload_n C.1 C.2.1 dX11_feedLine_66 rfl (lv_at hl 3 rfl) ?_
      obtain ⟨o2, hF⟩ := hF
      refine zgov (zrunV (As := [.int (zI (0)), .int (zI (40)), .int (zI (b))]) (rest := []) C hE hH hS hl.1 (c_X11_full (l := l) hM (0) (by decide) (40) (by decide) (b) hb o2) k_RX11_177 ⟨Nat.le_of_ble_eq_true rfl, Nat.le_of_ble_eq_true rfl⟩ (zM_n0 hM) (zM_k0 hM) rfl rfl rfl (Nat.le_of_ble_eq_true rfl) dX11_feedLine_67 ⟨Nat.zero_le _, Nat.zero_le _⟩) hS (fun X3 Yq Rq H locs hq hH hS => ?_)
      obtain ⟨h9Y, h9R, hq⟩ := hq
      dsimp only at h9Y h9R
      rw [h9Y, h9R] at hH
      have hF := hF X3 hH.2.2.1 hq
      refine lv_aload_n C.1 C.2.1 dX11_feedLine_70 rfl (lv_at hl 1 rfl) ?_
      obtain ⟨o4, hF⟩ := hF
      refine zgov (zrunV (As := []) (rest := []) C hE hH hS hl.1 (c_X11_token (l := l) hM  o4) k_RX11_152 ⟨Nat.le_of_ble_eq_true rfl, Nat.le_of_ble_eq_true rfl⟩ (zM_n0 hM) (zM_k0 hM) rfl rfl rfl (Nat.le_of_ble_eq_true rfl) dX11_feedLine_71 ⟨Nat.zero_le _, Nat.zero_le _⟩) hS (fun X5 Y6 Rq H locs hq hH hS => ?_)
      obtain ⟨h9R, hq⟩ := hq
      dsimp only at h9R
      rw [h9R] at hH
      have hF := hF X5 hH.2.2.1 Y6 hH.2.2.2 hq
      refine lv_aload_n C.1 C.2.1 dX11_feedLine_74 rfl (lv_at hl 1 rfl) ?_
      refine zd_iconst C dX11_feedLine_75 ?_
      refine lv_iload C.1 C.2.1 dX11_feedLine_76 (lv_at hl 0 rfl) ?_
      refine zd_iconst C dX11_feedLine_78 ?_
      refine zd_icmp_ne C hdd (by decide) 86 dX11_feedLine_79 (by decide) (fun c7 => ?_) (fun c7 => ?_)
      · have hF := hF.1 c7
        refine zd_iconst C dX11_feedLine_86 ?_
        refine lv_iload C.1 C.2.1 dX11_feedLine_87 (lv_at hl 0 rfl) ?_
        refine zd_iconst C dX11_feedLine_89 ?_
        refine zd_icmp_ne C hdd (by decide) 97 dX11_feedLine_90 (by decide) (fun c8 => ?_) (fun c8 => ?_)
        · have hF := hF.1 c8
          refine zd_bipush C (by decide) dX11_feedLine_97 ?_
          obtain ⟨o9, hF⟩ := hF
          refine zgoi (zrunV (As := [.int (zI (1)), .int (zI (1)), .int (zI (14))]) (rest := []) C hE hH hS hl.1 (c_X11_take (l := l) hM (1) (by decide) (1) (by decide) (14) (by decide) o9) k_RX11_181 ⟨Nat.le_of_ble_eq_true rfl, Nat.le_of_ble_eq_true rfl⟩ (zM_n0 hM) (zM_k0 hM) rfl rfl rfl (Nat.le_of_ble_eq_true rfl) dX11_feedLine_99 ⟨Nat.zero_le _, Nat.zero_le _⟩) hS (fun rq X10 Y11 Rq H locs hrq hq hH hS => ?_)
          obtain ⟨h9R, hq⟩ := hq
          dsimp only at h9R
          rw [h9R] at hH
          obtain ⟨r12, h91, hq⟩ := hq
          subst h91
          have hF := hF r12 X10 hH.2.2.1 Y11 hH.2.2.2 hq
          refine zd_ifB_ne C 107 dX11_feedLine_102 (by decide) (fun c13 => ?_) (fun c13 => ?_)
          · have hF := hF.1 c13
            refine lv_aload_n C.1 C.2.1 dX11_feedLine_107 rfl (lv_at hl 1 rfl) ?_
            refine zg11_21 C hH (zM_n0 hM) (zM_k0 hM) q_1308 (zM_r12 hM) dX11_feedLine_108 ?_
            refine zd_iconst C dX11_feedLine_111 ?_
            refine lv_iload C.1 C.2.1 dX11_feedLine_112 (lv_at hl 0 rfl) ?_
            refine zd_iast C hH hS (zM_n12 hM) (zM_k12 hM) (by decide) (by rw [zM_l12 hM]; decide) (by rw [zM_l12 hM]; decide) hdd dX11_feedLine_114 (fun H locs hH hS => ?_)
            obtain ⟨X14, eX14⟩ : ∃ z, z = zU X10 (i + 12) (0) (dd) := ⟨_, rfl⟩
            rw [← eX14] at hH
            have hF := hF X14 eX14 hH.2.2.1
            refine lv_aload_n C.1 C.2.1 dX11_feedLine_115 rfl (lv_at hl 1 rfl) ?_
            refine zd_iconst C dX11_feedLine_116 ?_
            refine zd_bipush C (by decide) dX11_feedLine_117 ?_
            obtain ⟨o15, hF⟩ := hF
            refine zgov (zrunV (As := [.int (zI (2)), .int (zI (40))]) (rest := []) C hE hH hS hl.1 (c_X11_keepRow (l := l) hM (2) (by decide) (40) (by decide) o15) k_RX11_208 ⟨Nat.le_of_ble_eq_true rfl, Nat.le_of_ble_eq_true rfl⟩ (zM_n0 hM) (zM_k0 hM) rfl rfl rfl (Nat.le_of_ble_eq_true rfl) dX11_feedLine_119 ⟨Nat.zero_le _, Nat.zero_le _⟩) hS (fun X16 Yq Rq H locs hq hH hS => ?_)
            obtain ⟨h9Y, h9R, hq⟩ := hq
            dsimp only at h9Y h9R
            rw [h9Y, h9R] at hH
            have hF := hF X16 hH.2.2.1 hq
            refine zd_iconst C dX11_feedLine_122 ?_
            exact zd_zret C hr hlk hH hS (by decide) (⟨rfl, _, rfl, hF⟩) dX11_feedLine_123
          · have hF := hF.2 c13
            refine zd_iconst C dX11_feedLine_105 ?_
            exact zd_zret C hr hlk hH hS (by decide) (⟨rfl, _, rfl, hF⟩) dX11_feedLine_106
        · have hF := hF.2 c8
          refine zd_iconst C dX11_feedLine_93 ?_
          refine lv_goto (tgt := 99) C.1 C.2.1 dX11_feedLine_94 (by decide) ?_
          obtain ⟨o17, hF⟩ := hF
          refine zgoi (zrunV (As := [.int (zI (1)), .int (zI (1)), .int (zI (1))]) (rest := []) C hE hH hS hl.1 (c_X11_take (l := l) hM (1) (by decide) (1) (by decide) (1) (by decide) o17) k_RX11_181 ⟨Nat.le_of_ble_eq_true rfl, Nat.le_of_ble_eq_true rfl⟩ (zM_n0 hM) (zM_k0 hM) rfl rfl rfl (Nat.le_of_ble_eq_true rfl) dX11_feedLine_99 ⟨Nat.zero_le _, Nat.zero_le _⟩) hS (fun rq X18 Y19 Rq H locs hrq hq hH hS => ?_)
          obtain ⟨h9R, hq⟩ := hq
          dsimp only at h9R
          rw [h9R] at hH
          obtain ⟨r20, h91, hq⟩ := hq
          subst h91
          have hF := hF r20 X18 hH.2.2.1 Y19 hH.2.2.2 hq
          refine zd_ifB_ne C 107 dX11_feedLine_102 (by decide) (fun c21 => ?_) (fun c21 => ?_)
          · have hF := hF.1 c21
            refine lv_aload_n C.1 C.2.1 dX11_feedLine_107 rfl (lv_at hl 1 rfl) ?_
            refine zg11_21 C hH (zM_n0 hM) (zM_k0 hM) q_1308 (zM_r12 hM) dX11_feedLine_108 ?_
            refine zd_iconst C dX11_feedLine_111 ?_
            refine lv_iload C.1 C.2.1 dX11_feedLine_112 (lv_at hl 0 rfl) ?_
            refine zd_iast C hH hS (zM_n12 hM) (zM_k12 hM) (by decide) (by rw [zM_l12 hM]; decide) (by rw [zM_l12 hM]; decide) hdd dX11_feedLine_114 (fun H locs hH hS => ?_)
            obtain ⟨X22, eX22⟩ : ∃ z, z = zU X18 (i + 12) (0) (dd) := ⟨_, rfl⟩
            rw [← eX22] at hH
            have hF := hF X22 eX22 hH.2.2.1
            refine lv_aload_n C.1 C.2.1 dX11_feedLine_115 rfl (lv_at hl 1 rfl) ?_
            refine zd_iconst C dX11_feedLine_116 ?_
            refine zd_bipush C (by decide) dX11_feedLine_117 ?_
            obtain ⟨o23, hF⟩ := hF
            refine zgov (zrunV (As := [.int (zI (2)), .int (zI (40))]) (rest := []) C hE hH hS hl.1 (c_X11_keepRow (l := l) hM (2) (by decide) (40) (by decide) o23) k_RX11_208 ⟨Nat.le_of_ble_eq_true rfl, Nat.le_of_ble_eq_true rfl⟩ (zM_n0 hM) (zM_k0 hM) rfl rfl rfl (Nat.le_of_ble_eq_true rfl) dX11_feedLine_119 ⟨Nat.zero_le _, Nat.zero_le _⟩) hS (fun X24 Yq Rq H locs hq hH hS => ?_)
            obtain ⟨h9Y, h9R, hq⟩ := hq
            dsimp only at h9Y h9R
            rw [h9Y, h9R] at hH
            have hF := hF X24 hH.2.2.1 hq
            refine zd_iconst C dX11_feedLine_122 ?_
            exact zd_zret C hr hlk hH hS (by decide) (⟨rfl, _, rfl, hF⟩) dX11_feedLine_123
          · have hF := hF.2 c21
            refine zd_iconst C dX11_feedLine_105 ?_
            exact zd_zret C hr hlk hH hS (by decide) (⟨rfl, _, rfl, hF⟩) dX11_feedLine_106
      · have hF := hF.2 c7
        refine zd_iconst C dX11_feedLine_82 ?_
        refine lv_goto (tgt := 87) C.1 C.2.1 dX11_feedLine_83 (by decide) ?_
        refine lv_iload C.1 C.2.1 dX11_feedLine_87 (lv_at hl 0 rfl) ?_
        refine zd_iconst C dX11_feedLine_89 ?_
        refine zd_icmp_ne C hdd (by decide) 97 dX11_feedLine_90 (by decide) (fun c25 => ?_) (fun c25 => ?_)
        · have hF := hF.1 c25
          refine zd_bipush C (by decide) dX11_feedLine_97 ?_
          obtain ⟨o26, hF⟩ := hF
          refine zgoi (zrunV (As := [.int (zI (1)), .int (zI (0)), .int (zI (14))]) (rest := []) C hE hH hS hl.1 (c_X11_take (l := l) hM (1) (by decide) (0) (by decide) (14) (by decide) o26) k_RX11_181 ⟨Nat.le_of_ble_eq_true rfl, Nat.le_of_ble_eq_true rfl⟩ (zM_n0 hM) (zM_k0 hM) rfl rfl rfl (Nat.le_of_ble_eq_true rfl) dX11_feedLine_99 ⟨Nat.zero_le _, Nat.zero_le _⟩) hS (fun rq X27 Y28 Rq H locs hrq hq hH hS => ?_)
          obtain ⟨h9R, hq⟩ := hq
          dsimp only at h9R
          rw [h9R] at hH
          obtain ⟨r29, h91, hq⟩ := hq
          subst h91
          have hF := hF r29 X27 hH.2.2.1 Y28 hH.2.2.2 hq
          refine zd_ifB_ne C 107 dX11_feedLine_102 (by decide) (fun c30 => ?_) (fun c30 => ?_)
          · have hF := hF.1 c30
            refine lv_aload_n C.1 C.2.1 dX11_feedLine_107 rfl (lv_at hl 1 rfl) ?_
            refine zg11_21 C hH (zM_n0 hM) (zM_k0 hM) q_1308 (zM_r12 hM) dX11_feedLine_108 ?_
            refine zd_iconst C dX11_feedLine_111 ?_
            refine lv_iload C.1 C.2.1 dX11_feedLine_112 (lv_at hl 0 rfl) ?_
            refine zd_iast C hH hS (zM_n12 hM) (zM_k12 hM) (by decide) (by rw [zM_l12 hM]; decide) (by rw [zM_l12 hM]; decide) hdd dX11_feedLine_114 (fun H locs hH hS => ?_)
            obtain ⟨X31, eX31⟩ : ∃ z, z = zU X27 (i + 12) (0) (dd) := ⟨_, rfl⟩
            rw [← eX31] at hH
            have hF := hF X31 eX31 hH.2.2.1
            refine lv_aload_n C.1 C.2.1 dX11_feedLine_115 rfl (lv_at hl 1 rfl) ?_
            refine zd_iconst C dX11_feedLine_116 ?_
            refine zd_bipush C (by decide) dX11_feedLine_117 ?_
            obtain ⟨o32, hF⟩ := hF
            refine zgov (zrunV (As := [.int (zI (2)), .int (zI (40))]) (rest := []) C hE hH hS hl.1 (c_X11_keepRow (l := l) hM (2) (by decide) (40) (by decide) o32) k_RX11_208 ⟨Nat.le_of_ble_eq_true rfl, Nat.le_of_ble_eq_true rfl⟩ (zM_n0 hM) (zM_k0 hM) rfl rfl rfl (Nat.le_of_ble_eq_true rfl) dX11_feedLine_119 ⟨Nat.zero_le _, Nat.zero_le _⟩) hS (fun X33 Yq Rq H locs hq hH hS => ?_)
            obtain ⟨h9Y, h9R, hq⟩ := hq
            dsimp only at h9Y h9R
            rw [h9Y, h9R] at hH
            have hF := hF X33 hH.2.2.1 hq
            refine zd_iconst C dX11_feedLine_122 ?_
            exact zd_zret C hr hlk hH hS (by decide) (⟨rfl, _, rfl, hF⟩) dX11_feedLine_123
          · have hF := hF.2 c30
            refine zd_iconst C dX11_feedLine_105 ?_
            exact zd_zret C hr hlk hH hS (by decide) (⟨rfl, _, rfl, hF⟩) dX11_feedLine_106
        · have hF := hF.2 c25
          refine zd_iconst C dX11_feedLine_93 ?_
          refine lv_goto (tgt := 99) C.1 C.2.1 dX11_feedLine_94 (by decide) ?_
          obtain ⟨o34, hF⟩ := hF
          refine zgoi (zrunV (As := [.int (zI (1)), .int (zI (0)), .int (zI (1))]) (rest := []) C hE hH hS hl.1 (c_X11_take (l := l) hM (1) (by decide) (0) (by decide) (1) (by decide) o34) k_RX11_181 ⟨Nat.le_of_ble_eq_true rfl, Nat.le_of_ble_eq_true rfl⟩ (zM_n0 hM) (zM_k0 hM) rfl rfl rfl (Nat.le_of_ble_eq_true rfl) dX11_feedLine_99 ⟨Nat.zero_le _, Nat.zero_le _⟩) hS (fun rq X35 Y36 Rq H locs hrq hq hH hS => ?_)
          obtain ⟨h9R, hq⟩ := hq
          dsimp only at h9R
          rw [h9R] at hH
          obtain ⟨r37, h91, hq⟩ := hq
          subst h91
          have hF := hF r37 X35 hH.2.2.1 Y36 hH.2.2.2 hq
          refine zd_ifB_ne C 107 dX11_feedLine_102 (by decide) (fun c38 => ?_) (fun c38 => ?_)
          · have hF := hF.1 c38
            refine lv_aload_n C.1 C.2.1 dX11_feedLine_107 rfl (lv_at hl 1 rfl) ?_
            refine zg11_21 C hH (zM_n0 hM) (zM_k0 hM) q_1308 (zM_r12 hM) dX11_feedLine_108 ?_
            refine zd_iconst C dX11_feedLine_111 ?_
            refine lv_iload C.1 C.2.1 dX11_feedLine_112 (lv_at hl 0 rfl) ?_
            refine zd_iast C hH hS (zM_n12 hM) (zM_k12 hM) (by decide) (by rw [zM_l12 hM]; decide) (by rw [zM_l12 hM]; decide) hdd dX11_feedLine_114 (fun H locs hH hS => ?_)
            obtain ⟨X39, eX39⟩ : ∃ z, z = zU X35 (i + 12) (0) (dd) := ⟨_, rfl⟩
            rw [← eX39] at hH
            have hF := hF X39 eX39 hH.2.2.1
            refine lv_aload_n C.1 C.2.1 dX11_feedLine_115 rfl (lv_at hl 1 rfl) ?_
            refine zd_iconst C dX11_feedLine_116 ?_
            refine zd_bipush C (by decide) dX11_feedLine_117 ?_
            obtain ⟨o40, hF⟩ := hF
            refine zgov (zrunV (As := [.int (zI (2)), .int (zI (40))]) (rest := []) C hE hH hS hl.1 (c_X11_keepRow (l := l) hM (2) (by decide) (40) (by decide) o40) k_RX11_208 ⟨Nat.le_of_ble_eq_true rfl, Nat.le_of_ble_eq_true rfl⟩ (zM_n0 hM) (zM_k0 hM) rfl rfl rfl (Nat.le_of_ble_eq_true rfl) dX11_feedLine_119 ⟨Nat.zero_le _, Nat.zero_le _⟩) hS (fun X41 Yq Rq H locs hq hH hS => ?_)
            obtain ⟨h9Y, h9R, hq⟩ := hq
            dsimp only at h9Y h9R
            rw [h9Y, h9R] at hH
            have hF := hF X41 hH.2.2.1 hq
            refine zd_iconst C dX11_feedLine_122 ?_
            exact zd_zret C hr hlk hH hS (by decide) (⟨rfl, _, rfl, hF⟩) dX11_feedLine_123
          · have hF := hF.2 c38
            refine zd_iconst C dX11_feedLine_105 ?_
            exact zd_zret C hr hlk hH hS (by decide) (⟨rfl, _, rfl, hF⟩) dX11_feedLine_106
    · have hF := hF.2 c1
      refine lv_aload_n C.1 C.2.1 dX11_feedLine_57 rfl (lv_at hl 1 rfl) ?_
      refine zgoi (zrunV (As := []) (rest := []) C hE hH hS hl.1 (c_X11_fails (l := l) hM ) k_RX11_140 ⟨Nat.le_of_ble_eq_true rfl, Nat.le_of_ble_eq_true rfl⟩ (zM_n0 hM) (zM_k0 hM) rfl rfl rfl (Nat.le_of_ble_eq_true rfl) dX11_feedLine_58 ⟨Nat.zero_le _, Nat.zero_le _⟩) hS (fun rq X42 Yq Rq H locs hrq hq hH hS => ?_)
      obtain ⟨h9Y, h9R, hq⟩ := hq
      dsimp only at h9Y h9R
      rw [h9Y, h9R] at hH
      obtain ⟨r43, h91, hq⟩ := hq
      subst h91
      have hF := hF r43 X42 hH.2.2.1 hq
      exact zd_zret C hr hlk hH hS bz_01 (⟨rfl, _, rfl, hF⟩) dX11_feedLine_61
  have hF := hF.2
  refine lv_lload_n C.1 C.2.1 dX11_feedLine_0 rfl (lv_at hl 1 rfl) ?_
  refine lv_ldc2 (v := zL (1751474532)) C.1 C.2.1 C.2.2.2.1 (C.2.2.2.2.1 _ q_1585) dX11_feedLine_1 ?_
  refine zd_lcmp C ha (by decide) dX11_feedLine_4 ?_
  refine zd_ifL_ne C 12 dX11_feedLine_5 (by decide) (fun c44 => ?_) (fun c44 => ?_)
  · have hF := hF.1 c44
    refine lv_lload_n C.1 C.2.1 dX11_feedLine_12 rfl (lv_at hl 1 rfl) ?_
    refine lv_ldc2 (v := zL (1651467385)) C.1 C.2.1 C.2.2.2.1 (C.2.2.2.2.1 _ q_1586) dX11_feedLine_13 ?_
    refine zd_lcmp C ha (by decide) dX11_feedLine_16 ?_
    refine zd_ifL_ne C 24 dX11_feedLine_17 (by decide) (fun c45 => ?_) (fun c45 => ?_)
    · have hF := hF.1 c45
      refine lv_lload_n C.1 C.2.1 dX11_feedLine_24 rfl (lv_at hl 1 rfl) ?_
      refine lv_ldc2 (v := zL (1685221232)) C.1 C.2.1 C.2.2.2.1 (C.2.2.2.2.1 _ q_1587) dX11_feedLine_25 ?_
      refine zd_lcmp C ha (by decide) dX11_feedLine_28 ?_
      refine zd_ifL_ne C 36 dX11_feedLine_29 (by decide) (fun c46 => ?_) (fun c46 => ?_)
      · have hF := hF.1 c46
        refine lv_lload_n C.1 C.2.1 dX11_feedLine_36 rfl (lv_at hl 1 rfl) ?_
        refine lv_ldc2 (v := zL (1920298085)) C.1 C.2.1 C.2.2.2.1 (C.2.2.2.2.1 _ q_1540) dX11_feedLine_37 ?_
        refine zd_lcmp C ha (by decide) dX11_feedLine_40 ?_
        refine zd_ifL_ne C 48 dX11_feedLine_41 (by decide) (fun c47 => ?_) (fun c47 => ?_)
        · have hF := hF.1 c47
          refine zd_iconst C dX11_feedLine_48 ?_
          refine lv_istore (lv' := [(4, .int (zI ((-1)))), (0, .ref (bs + (i))), (1, .long (zL (a))), (3, .int (zI (b)))]) C.1 C.2.1 dX11_feedLine_49 hl (by decide) rfl (fun ls hl => ?_)
          exact J1 ((-1 : Int)) (by decide) hF _ _ _ hH hS (lv_sub hl [0, 1, 2, 3] rfl)
        · have hF := hF.2 c47
          refine zd_iconst C dX11_feedLine_44 ?_
          refine lv_goto (tgt := 49) C.1 C.2.1 dX11_feedLine_45 (by decide) ?_
          refine lv_istore (lv' := [(4, .int (zI (3))), (0, .ref (bs + (i))), (1, .long (zL (a))), (3, .int (zI (b)))]) C.1 C.2.1 dX11_feedLine_49 hl (by decide) rfl (fun ls hl => ?_)
          exact J1 ((3 : Int)) (by decide) hF _ _ _ hH hS (lv_sub hl [0, 1, 2, 3] rfl)
      · have hF := hF.2 c46
        refine zd_iconst C dX11_feedLine_32 ?_
        refine lv_goto (tgt := 49) C.1 C.2.1 dX11_feedLine_33 (by decide) ?_
        refine lv_istore (lv' := [(4, .int (zI (2))), (0, .ref (bs + (i))), (1, .long (zL (a))), (3, .int (zI (b)))]) C.1 C.2.1 dX11_feedLine_49 hl (by decide) rfl (fun ls hl => ?_)
        exact J1 ((2 : Int)) (by decide) hF _ _ _ hH hS (lv_sub hl [0, 1, 2, 3] rfl)
    · have hF := hF.2 c45
      refine zd_iconst C dX11_feedLine_20 ?_
      refine lv_goto (tgt := 49) C.1 C.2.1 dX11_feedLine_21 (by decide) ?_
      refine lv_istore (lv' := [(4, .int (zI (1))), (0, .ref (bs + (i))), (1, .long (zL (a))), (3, .int (zI (b)))]) C.1 C.2.1 dX11_feedLine_49 hl (by decide) rfl (fun ls hl => ?_)
      exact J1 ((1 : Int)) (by decide) hF _ _ _ hH hS (lv_sub hl [0, 1, 2, 3] rfl)
  · have hF := hF.2 c44
    refine zd_iconst C dX11_feedLine_8 ?_
    refine lv_goto (tgt := 49) C.1 C.2.1 dX11_feedLine_9 (by decide) ?_
    refine lv_istore (lv' := [(4, .int (zI (0))), (0, .ref (bs + (i))), (1, .long (zL (a))), (3, .int (zI (b)))]) C.1 C.2.1 dX11_feedLine_49 hl (by decide) rfl (fun ls hl => ?_)
    exact J1 ((0 : Int)) (by decide) hF _ _ _ hH hS (lv_sub hl [0, 1, 2, 3] rfl)
theorem v_X11_feedLine {X Y : Nat → Int → Int} {R : Nat → Int → Option Nat} {i : Nat} (a : Int) (ha : rL a) (b : Int) (hb : rI b) (hp : oRd X i ∧ bnD 2 X i) : F_X11_feedLine i X Y R a b := by
  unfold F_X11_feedLine
  intro hX hY
  obtain ⟨hr, hbd⟩ := hp
  have hbd' : 0 ≤ X (i + 11) 0 ∧ X (i + 11) 0 ≤ 40 := hbd
  refine ⟨?_, ?_⟩
  · intro dd
    intro _
    intro h1
    refine ⟨?_, ?_⟩
    · intro c1
      refine ⟨?_, ?_⟩
      · first | omega | exact ⟨by omega, by omega⟩ | decide | assumption | exact ⟨by omega, by omega, by omega⟩ | exact ⟨by decide, by decide⟩
      intro X3
      intro rX3
      intro h2
      rw [ifd] at h2
      refine ⟨?_, ?_⟩
      · rw [h2]
        split
        · exact oRd_k (adF_o.1 _ (by omega)) (adF_o.2 _ (by decide) (by decide)) (adF_o.2 _ (by decide) (by decide)) hr
        · exact hr
      intro X5
      intro rX5
      intro Y6
      intro rY6
      intro h3
      obtain ⟨r3, rX5, k5, u5, v5, w5, g5, l5, qX5, st5⟩ := fu_st (b := b) hr h2 h3
      have qX5n : (X5 i 12).toNat = (X i 12).toNat := by rw [l5]
      refine ⟨?_, ?_⟩
      · intro c2
        refine ⟨?_, ?_⟩
        · intro c3
          refine ⟨?_, ?_⟩
          · exact ⟨rX5, by decide, by decide⟩
          intro r12
          intro X10
          intro rX10
          intro Y11
          intro rY11
          intro h4
          obtain ⟨kX10, uX10, wX10, fX10, tX10⟩ := tk_st rX5 h4
          refine ⟨?_, ?_⟩
          · intro c4
            have rX10 := (tX10 c4).1
            have xX10 := (tX10 c4).2.1
            have qX10 : X10 (i + 1) = X (i + 1) := (kX10.1 _ (by omega) (by omega) (by omega)).trans qX5
            have qX10n : (X10 i 12).toNat = (X i 12).toNat := by rw [kX10.2.1 12 (by omega)]; exact qX5n
            intro X14
            intro eX14
            obtain ⟨kX14, oX14, uX14⟩ := zr_o (Y := Y11) eX14
            have oX14 := oX14 rX10
            intro rX14
            refine ⟨?_, ?_⟩
            · rw [uX14, uX10, u5]
              exact ⟨hbd', by decide, by decide, by decide, by omega, by omega⟩
            intro X16
            intro rX16
            intro h5
            have rX14 := oX14
            obtain ⟨ka, kb, kc⟩ := kr_o (Y := Y11) h5
            refine ⟨((k5).tr kX10).tr (kX14.tr ka), fun _ => ⟨kb rX14, ?_⟩, fun s hs hw hb hk => ?_⟩
            · show 0 ≤ X16 (i + 11) 0 ∧ X16 (i + 11) 0 ≤ 40
              rw [kc, uX14, uX10, u5]
              exact ⟨by omega, by omega⟩
            · have l0 := ln_0 (of := 2) (k := dd) (s := s) hr h2 h3 hs hb hk (fun z => by
                rw [(hs.2.2 z).1 0 (by decide) (by decide)]
                rfl)
              obtain ⟨n0, s0⟩ := l0
              have l1 := ln_s (of := 2) (k := dd) (idx := 1) (lo := 1) (hi := 14) (but := (-1)) rX5 h4 qX5 qX5n n0 s0 (fun z k3 => by
                rw [val_m1 (tkV_b k3).1]
                exact (if_neg c2).symm)
              obtain ⟨k1, v1, w1, f1, n1, s1, z1⟩ := l1.2 c4
              have ek : kwT (X (i + 1)) (X i 12).toNat s.1 2 = dd := by
                show kwN 2 (wdS X Y i s) = _
                rw [← hw]
                exact h1.symm
              rw [rdL_n ek c1 n1]
              refine ⟨rfl, kr_tl (wd := 2) (most := 40) (vv := (fun j : Nat => if j = 0 then dd else (fun j : Nat => tkV (X (i + 1)) (X i 12).toNat (ptN (X (i + 1)) (X i 12).toNat (tkN (X (i + 1)) (X i 12).toNat s.1) j)) 0)) (rdS_z s1 eX14) h5 (by decide) (fun z => ?_) (fun z j hj => ?_) rfl⟩
              · have z0 : (f1L (X (i + 1)) (X i 12).toNat 2 dd s).1 = 0 := (z1 z)
                have z2 := fl0_n3 (by decide) z0
                have e : decide (40 ≤ s.2.1.1 0) = false := z2.2
                exact Int.not_le.mp (of_decide_eq_false e)
              · have hj : j < 2 := hj
                rw [eX14, zU_up]
                rcases (show j = 0 ∨ j = 1 by omega) with e | e
                · subst e
                  rfl
                · subst e
                  show X10 (i + 12) 1 = _
                  rw [w1]
                  rfl
          intro c5
          refine ⟨(k5).tr kX10, fun g => absurd g (by decide), fun s hs hw hb hk => ?_⟩
          have l0 := ln_0 (of := 2) (k := dd) (s := s) hr h2 h3 hs hb hk (fun z => by
            rw [(hs.2.2 z).1 0 (by decide) (by decide)]
            rfl)
          obtain ⟨n0, s0⟩ := l0
          have l1 := ln_s (of := 2) (k := dd) (idx := 1) (lo := 1) (hi := 14) (but := (-1)) rX5 h4 qX5 qX5n n0 s0 (fun z k3 => by
            rw [val_m1 (tkV_b k3).1]
            exact (if_neg c2).symm)
          obtain ⟨n9, x9⟩ := l1.1 c5
          have ek : kwT (X (i + 1)) (X i 12).toNat s.1 2 = dd := by
            show kwN 2 (wdS X Y i s) = _
            rw [← hw]
            exact h1.symm
          rw [rdL_l ek c1 (rdN_l n9 0)]
          exact ⟨rfl, x9⟩
        intro c6
        omega
      intro c9
      refine ⟨?_, ?_⟩
      · intro c10
        omega
      intro c13
      refine ⟨?_, ?_⟩
      · exact ⟨rX5, by decide, by decide⟩
      intro r37
      intro X35
      intro rX35
      intro Y36
      intro rY36
      intro h10
      obtain ⟨kX35, uX35, wX35, fX35, tX35⟩ := tk_st rX5 h10
      refine ⟨?_, ?_⟩
      · intro c14
        have rX35 := (tX35 c14).1
        have xX35 := (tX35 c14).2.1
        have qX35 : X35 (i + 1) = X (i + 1) := (kX35.1 _ (by omega) (by omega) (by omega)).trans qX5
        have qX35n : (X35 i 12).toNat = (X i 12).toNat := by rw [kX35.2.1 12 (by omega)]; exact qX5n
        intro X39
        intro eX39
        obtain ⟨kX39, oX39, uX39⟩ := zr_o (Y := Y36) eX39
        have oX39 := oX39 rX35
        intro rX39
        refine ⟨?_, ?_⟩
        · rw [uX39, uX35, u5]
          exact ⟨hbd', by decide, by decide, by decide, by omega, by omega⟩
        intro X41
        intro rX41
        intro h11
        have rX39 := oX39
        obtain ⟨ka, kb, kc⟩ := kr_o (Y := Y36) h11
        refine ⟨((k5).tr kX35).tr (kX39.tr ka), fun _ => ⟨kb rX39, ?_⟩, fun s hs hw hb hk => ?_⟩
        · show 0 ≤ X41 (i + 11) 0 ∧ X41 (i + 11) 0 ≤ 40
          rw [kc, uX39, uX35, u5]
          exact ⟨by omega, by omega⟩
        · have l0 := ln_0 (of := 2) (k := dd) (s := s) hr h2 h3 hs hb hk (fun z => by
            rw [(hs.2.2 z).1 0 (by decide) (by decide)]
            rfl)
          obtain ⟨n0, s0⟩ := l0
          have l1 := ln_s (of := 2) (k := dd) (idx := 1) (lo := 0) (hi := 1) (but := (-1)) rX5 h10 qX5 qX5n n0 s0 (fun z k3 => by
            rw [val_m1 (tkV_b k3).1]
            exact (if_pos (Classical.not_not.mp c9)).symm)
          obtain ⟨k1, v1, w1, f1, n1, s1, z1⟩ := l1.2 c14
          have ek : kwT (X (i + 1)) (X i 12).toNat s.1 2 = dd := by
            show kwN 2 (wdS X Y i s) = _
            rw [← hw]
            exact h1.symm
          rw [rdL_n ek c1 n1]
          refine ⟨rfl, kr_tl (wd := 2) (most := 40) (vv := (fun j : Nat => if j = 0 then dd else (fun j : Nat => tkV (X (i + 1)) (X i 12).toNat (ptN (X (i + 1)) (X i 12).toNat (tkN (X (i + 1)) (X i 12).toNat s.1) j)) 0)) (rdS_z s1 eX39) h11 (by decide) (fun z => ?_) (fun z j hj => ?_) rfl⟩
          · have z0 : (f1L (X (i + 1)) (X i 12).toNat 2 dd s).1 = 0 := (z1 z)
            have z2 := fl0_n3 (by decide) z0
            have e : decide (40 ≤ s.2.1.1 0) = false := z2.2
            exact Int.not_le.mp (of_decide_eq_false e)
          · have hj : j < 2 := hj
            rw [eX39, zU_up]
            rcases (show j = 0 ∨ j = 1 by omega) with e | e
            · subst e
              rfl
            · subst e
              show X35 (i + 12) 1 = _
              rw [w1]
              rfl
      intro c15
      refine ⟨(k5).tr kX35, fun g => absurd g (by decide), fun s hs hw hb hk => ?_⟩
      have l0 := ln_0 (of := 2) (k := dd) (s := s) hr h2 h3 hs hb hk (fun z => by
        rw [(hs.2.2 z).1 0 (by decide) (by decide)]
        rfl)
      obtain ⟨n0, s0⟩ := l0
      have l1 := ln_s (of := 2) (k := dd) (idx := 1) (lo := 0) (hi := 1) (but := (-1)) rX5 h10 qX5 qX5n n0 s0 (fun z k3 => by
        rw [val_m1 (tkV_b k3).1]
        exact (if_pos (Classical.not_not.mp c9)).symm)
      obtain ⟨n9, x9⟩ := l1.1 c15
      have ek : kwT (X (i + 1)) (X i 12).toNat s.1 2 = dd := by
        show kwN 2 (wdS X Y i s) = _
        rw [← hw]
        exact h1.symm
      rw [rdL_l ek c1 (rdN_l n9 0)]
      exact ⟨rfl, x9⟩
    intro c16
    intro r43
    intro X42
    intro rX42
    intro h12
    refine ⟨⟨fun z h1 _ _ => by rw [h12.2, zU_o h1], fun s hs => by rw [h12.2, zU_n (by omega)], fun _ _ => rfl⟩, fun g => (by rw [h12.1] at g; cases g), fun s hs hw hb hk => ?_⟩
    have ek : kwT (X (i + 1)) (X i 12).toNat s.1 2 = -1 := by
      show kwN 2 (wdS X Y i s) = -1
      rw [← hw]
      rw [← h1]
      exact Classical.not_not.mp c16
    rw [rdL_k ek]
    exact ⟨h12.1, by rw [h12.2, zU_s]; exact hs.1.2.2.1⟩
  refine ⟨?_, ?_⟩
  · intro c17
    refine ⟨?_, ?_⟩
    · intro c18
      refine ⟨?_, ?_⟩
      · intro c19
        refine ⟨?_, ?_⟩
        · intro c20
          unfold kwN
          rw [if_neg (by decide), if_neg (by decide), if_pos rfl, if_neg c17, if_neg c18, if_neg c19, if_neg c20]
        intro c21
        rw [Classical.not_not.mp c21]
        rfl
      intro c22
      rw [Classical.not_not.mp c22]
      rfl
    intro c23
    rw [Classical.not_not.mp c23]
    rfl
  intro c24
  rw [Classical.not_not.mp c24]
  rfl
theorem c_X11_feedLine {l : Launch} {D : va_G} {cy : Nat → ClassId} {bs N : Nat} {sa : Nat → Nat} {kd len : Nat → Nat} {X Y : Nat → Int → Int} {R : Nat → Int → Option Nat} {i : Nat} (hM : zM N kd len R i) (a : Int) (ha : rL a) (b : Int) (hb : rI b) (hp : oRd X i ∧ bnD 2 X i) : Met l yX11_feedLine (.code yX11_feedLine cX11_feedLine 5 (some .boolean) :: zTB) (zRm 4 91) (zPc D cy bs sa N kd len X Y R [.ref (bs + (i)), .long (zL (a)), .int (zI (b))]) (zQi D cy bs N kd len (fun r st => st.2.2 = R ∧ ∃ rb : Bool, r = bz rb ∧ (lnP 2 (a) (b) X (st.1) Y (st.2.1) i rb))) 0 0 (zA bs) := w_X11_feedLine hM a ha b hb (v_X11_feedLine a ha b hb hp)
abbrev cX11_logLine : ByteArray := prog_13_method_28_code
def yX11_logLine : MethodName := ⟨RX11, "logLine", "(JI)Z"⟩
theorem dX11_logLine_0 : decode cX11_logLine 0 = .ok (.lload_n 1, 1) := by decide +kernel
theorem dX11_logLine_1 : decode cX11_logLine 1 = .ok (.ldc2_w 211, 3) := by decide +kernel
theorem dX11_logLine_4 : decode cX11_logLine 4 = .ok (.lcmp, 1) := by decide +kernel
theorem dX11_logLine_5 : decode cX11_logLine 5 = .ok (.ifCond .eq 8, 3) := by decide +kernel
theorem dX11_logLine_8 : decode cX11_logLine 8 = .ok (.aload_n 0, 1) := by decide +kernel
theorem dX11_logLine_9 : decode cX11_logLine 9 = .ok (.invokevirtual 140, 3) := by decide +kernel
theorem dX11_logLine_12 : decode cX11_logLine 12 = .ok (.ireturn, 1) := by decide +kernel
theorem dX11_logLine_13 : decode cX11_logLine 13 = .ok (.aload_n 0, 1) := by decide +kernel
theorem dX11_logLine_14 : decode cX11_logLine 14 = .ok (.iconst 0, 1) := by decide +kernel
theorem dX11_logLine_15 : decode cX11_logLine 15 = .ok (.bipush 8, 2) := by decide +kernel
theorem dX11_logLine_17 : decode cX11_logLine 17 = .ok (.iload_n 3, 1) := by decide +kernel
theorem dX11_logLine_18 : decode cX11_logLine 18 = .ok (.invokevirtual 177, 3) := by decide +kernel
theorem dX11_logLine_21 : decode cX11_logLine 21 = .ok (.aload_n 0, 1) := by decide +kernel
theorem dX11_logLine_22 : decode cX11_logLine 22 = .ok (.invokevirtual 152, 3) := by decide +kernel
theorem dX11_logLine_25 : decode cX11_logLine 25 = .ok (.aload_n 0, 1) := by decide +kernel
theorem dX11_logLine_26 : decode cX11_logLine 26 = .ok (.iconst 0, 1) := by decide +kernel
theorem dX11_logLine_27 : decode cX11_logLine 27 = .ok (.iconst 0, 1) := by decide +kernel
theorem dX11_logLine_28 : decode cX11_logLine 28 = .ok (.bipush 40, 2) := by decide +kernel
theorem dX11_logLine_30 : decode cX11_logLine 30 = .ok (.invokevirtual 181, 3) := by decide +kernel
theorem dX11_logLine_33 : decode cX11_logLine 33 = .ok (.ifCond .eq 14, 3) := by decide +kernel
theorem dX11_logLine_36 : decode cX11_logLine 36 = .ok (.aload_n 0, 1) := by decide +kernel
theorem dX11_logLine_37 : decode cX11_logLine 37 = .ok (.iconst 1, 1) := by decide +kernel
theorem dX11_logLine_38 : decode cX11_logLine 38 = .ok (.iconst 0, 1) := by decide +kernel
theorem dX11_logLine_39 : decode cX11_logLine 39 = .ok (.bipush 14, 2) := by decide +kernel
theorem dX11_logLine_41 : decode cX11_logLine 41 = .ok (.invokevirtual 181, 3) := by decide +kernel
theorem dX11_logLine_44 : decode cX11_logLine 44 = .ok (.ifCond .ne 5, 3) := by decide +kernel
theorem dX11_logLine_47 : decode cX11_logLine 47 = .ok (.iconst 0, 1) := by decide +kernel
theorem dX11_logLine_48 : decode cX11_logLine 48 = .ok (.ireturn, 1) := by decide +kernel
theorem dX11_logLine_49 : decode cX11_logLine 49 = .ok (.aload_n 0, 1) := by decide +kernel
theorem dX11_logLine_50 : decode cX11_logLine 50 = .ok (.iconst 2, 1) := by decide +kernel
theorem dX11_logLine_51 : decode cX11_logLine 51 = .ok (.bipush 8, 2) := by decide +kernel
theorem dX11_logLine_53 : decode cX11_logLine 53 = .ok (.invokevirtual 208, 3) := by decide +kernel
theorem dX11_logLine_56 : decode cX11_logLine 56 = .ok (.iconst 1, 1) := by decide +kernel
theorem dX11_logLine_57 : decode cX11_logLine 57 = .ok (.ireturn, 1) := by decide +kernel
theorem q_1596 : Cond.constantLong RX11 211 (zL (7629168)) ∈ zTB := zmem 1596 (by decide +kernel) rfl
def F_X11_logLine (i : Nat) (X Y : Nat → Int → Int) (R : Nat → Int → Option Nat) (a : Int) (b : Int) : Prop := (∀ i j, rI (X i j)) → (∀ i j, rL (Y i j)) → ((a = (7629168)) → ((0 ≤ (0 : Int) ∧ (0 : Int) < 183) ∧ (∀ X3 : Nat → Int → Int, (∀ i j, rI (X3 i j)) → ((X3) = if (8 : Int) ≤ X (i + 11) ((0 : Int)) then adF X i 3 (b) else X) → ((oRd X3 i) ∧ (∀ X5 : Nat → Int → Int, (∀ i j, rI (X5 i j)) → ∀ Y6 : Nat → Int → Int, (∀ i j, rL (Y6 i j)) → (tkC X3 (X5) Y (Y6) i ∧ (X5) i 11 = tkN (X3 (i + 1)) (X3 i 12).toNat (X3 i 11).toNat ∧ (X5) i 13 = tkB (X3 (i + 1)) (X3 i 12).toNat (X3 i 11).toNat ∧ (X5) i 14 = tkS (X3 (i + 1)) (X3 i 12).toNat (X3 i 11).toNat ∧ ((X5) i 14 = 3 → (X5) i 15 = tkV (X3 (i + 1)) (X3 i 12).toNat (X3 i 11).toNat) ∧ ((X5) i 14 = 2 → (Y6) i 16 = tkW (X3 (i + 1)) (X3 i 12).toNat (X3 i 11).toNat)) → ((oRd X5 i ∧ 0 ≤ (0 : Int) ∧ (0 : Int) < 4) ∧ (∀ r10 : Bool, ∀ X8 : Nat → Int → Int, (∀ i j, rI (X8 i j)) → ∀ Y9 : Nat → Int → Int, (∀ i j, rL (Y9 i j)) → (r10 = decide (X5 i 14 = 3) ∧ (r10 = false → (X8) = zU X5 i 17 (X5 i 13) ∧ (Y9) = Y6) ∧ (r10 = true → tkC (tbX X5 i ((0 : Int)) ((0 : Int)) ((40 : Int)) (-1)) (X8) Y6 (Y9) i ∧ tkAt (X8) (Y9) i (X5 i 11).toNat ∧ oRd (X8) i)) → (((r10 = false) → (lnP 3 (a) (b) X (X8) Y (Y9) i false)) ∧ ((r10 = true) → ((oRd X8 i ∧ 0 ≤ (1 : Int) ∧ (1 : Int) < 4) ∧ (∀ r15 : Bool, ∀ X13 : Nat → Int → Int, (∀ i j, rI (X13 i j)) → ∀ Y14 : Nat → Int → Int, (∀ i j, rL (Y14 i j)) → (r15 = decide (X8 i 14 = 3) ∧ (r15 = false → (X13) = zU X8 i 17 (X8 i 13) ∧ (Y14) = Y9) ∧ (r15 = true → tkC (tbX X8 i ((1 : Int)) ((0 : Int)) ((14 : Int)) (-1)) (X13) Y9 (Y14) i ∧ tkAt (X13) (Y14) i (X8 i 11).toNat ∧ oRd (X13) i)) → (((r15 = true) → (((0 ≤ X13 (i + 11) 0 ∧ X13 (i + 11) 0 ≤ (8 : Int)) ∧ (1 ≤ (2 : Int) ∧ (2 : Int) ≤ 4) ∧ (0 ≤ (8 : Int) ∧ (8 : Int) ≤ 40) ∧ ((2 : Int)) * ((8 : Int)) ≤ 100 ∧ (((2 : Int)) * (X13 (i + 11) 0) ≤ ((2 : Int)) * ((8 : Int)) - ((2 : Int)) ∨ (8 : Int) = X13 (i + 11) 0) ∧ 0 ≤ ((2 : Int)) * (X13 (i + 11) 0)) ∧ (∀ X18 : Nat → Int → Int, (∀ i j, rI (X18 i j)) → (krP X13 (X18) i ((2 : Int)) ((8 : Int))) → (lnP 3 (a) (b) X (X18) Y (Y14) i true)))) ∧ ((r15 = false) → (lnP 3 (a) (b) X (X13) Y (Y14) i false)))))))))))))) ∧ ((¬ (a = (7629168))) → (∀ r20 : Bool, ∀ X19 : Nat → Int → Int, (∀ i j, rI (X19 i j)) → (r20 = false ∧ (X19) = zU X i 17 (X i 13)) → (lnP 3 (a) (b) X (X19) Y (Y) i r20)))
set_option maxHeartbeats 4000000 in
set_option maxRecDepth 100000 in
theorem w_X11_logLine {l : Launch} {D : va_G} {cy : Nat → ClassId} {bs N : Nat} {sa : Nat → Nat} {kd len : Nat → Nat} {X Y : Nat → Int → Int} {R : Nat → Int → Option Nat} {i : Nat} (hM : zM N kd len R i) (a : Int) (ha : rL a) (b : Int) (hb : rI b) (hF : F_X11_logLine i X Y R a b) : Met l yX11_logLine (.code yX11_logLine cX11_logLine 4 (some .boolean) :: zTB) (zRm 4 91) (zPc D cy bs sa N kd len X Y R [.ref (bs + (i)), .long (zL (a)), .int (zI (b))]) (zQi D cy bs N kd len (fun r st => st.2.2 = R ∧ ∃ rb : Bool, r = bz rb ∧ (lnP 3 (a) (b) X (st.1) Y (st.2.1) i rb))) 0 0 (zA bs) := by
  refine zstart (by decide) (Nat.le_of_ble_eq_true rfl) ?_
  intro p e s m args below meth c ls C hE hH hr hlk hnm hl hargs
  have hF := hF hH.2.2.1 hH.2.2.2
  have hS : va_S (zA bs) s.heap s.heap [] := va_S.rf
  have hl : lv_has ls 4 [(0, .ref (bs + (i))), (1, .long (zL (a))), (3, .int (zI (b)))] := hl
  refine lv_lload_n C.1 C.2.1 dX11_logLine_0 rfl (lv_at hl 1 rfl) ?_
  refine lv_ldc2 (v := zL (7629168)) C.1 C.2.1 C.2.2.2.1 (C.2.2.2.2.1 _ q_1596) dX11_logLine_1 ?_
  refine zd_lcmp C ha (by decide) dX11_logLine_4 ?_
  refine zd_ifL_eq C 13 dX11_logLine_5 (by decide) (fun c1 => ?_) (fun c1 => ?_)
  · have hF := hF.1 c1
    refine lv_aload_n C.1 C.2.1 dX11_logLine_13 rfl (lv_at hl 0 rfl) ?_
    refine zd_iconst C dX11_logLine_14 ?_
    refine zd_bipush C (by decide) dX11_logLine_15 ?_
    refine lv_iload_n C.1 C.2.1 dX11_logLine_17 rfl (lv_at hl 2 rfl) ?_
    obtain ⟨o2, hF⟩ := hF
    refine zgov (zrunV (As := [.int (zI (0)), .int (zI (8)), .int (zI (b))]) (rest := []) C hE hH hS hl.1 (c_X11_full (l := l) hM (0) (by decide) (8) (by decide) (b) hb o2) k_RX11_177 ⟨Nat.le_of_ble_eq_true rfl, Nat.le_of_ble_eq_true rfl⟩ (zM_n0 hM) (zM_k0 hM) rfl rfl rfl (Nat.le_of_ble_eq_true rfl) dX11_logLine_18 ⟨Nat.zero_le _, Nat.zero_le _⟩) hS (fun X3 Yq Rq H locs hq hH hS => ?_)
    obtain ⟨h9Y, h9R, hq⟩ := hq
    dsimp only at h9Y h9R
    rw [h9Y, h9R] at hH
    have hF := hF X3 hH.2.2.1 hq
    refine lv_aload_n C.1 C.2.1 dX11_logLine_21 rfl (lv_at hl 0 rfl) ?_
    obtain ⟨o4, hF⟩ := hF
    refine zgov (zrunV (As := []) (rest := []) C hE hH hS hl.1 (c_X11_token (l := l) hM  o4) k_RX11_152 ⟨Nat.le_of_ble_eq_true rfl, Nat.le_of_ble_eq_true rfl⟩ (zM_n0 hM) (zM_k0 hM) rfl rfl rfl (Nat.le_of_ble_eq_true rfl) dX11_logLine_22 ⟨Nat.zero_le _, Nat.zero_le _⟩) hS (fun X5 Y6 Rq H locs hq hH hS => ?_)
    obtain ⟨h9R, hq⟩ := hq
    dsimp only at h9R
    rw [h9R] at hH
    have hF := hF X5 hH.2.2.1 Y6 hH.2.2.2 hq
    refine lv_aload_n C.1 C.2.1 dX11_logLine_25 rfl (lv_at hl 0 rfl) ?_
    refine zd_iconst C dX11_logLine_26 ?_
    refine zd_iconst C dX11_logLine_27 ?_
    refine zd_bipush C (by decide) dX11_logLine_28 ?_
    obtain ⟨o7, hF⟩ := hF
    refine zgoi (zrunV (As := [.int (zI (0)), .int (zI (0)), .int (zI (40))]) (rest := []) C hE hH hS hl.1 (c_X11_take (l := l) hM (0) (by decide) (0) (by decide) (40) (by decide) o7) k_RX11_181 ⟨Nat.le_of_ble_eq_true rfl, Nat.le_of_ble_eq_true rfl⟩ (zM_n0 hM) (zM_k0 hM) rfl rfl rfl (Nat.le_of_ble_eq_true rfl) dX11_logLine_30 ⟨Nat.zero_le _, Nat.zero_le _⟩) hS (fun rq X8 Y9 Rq H locs hrq hq hH hS => ?_)
    obtain ⟨h9R, hq⟩ := hq
    dsimp only at h9R
    rw [h9R] at hH
    obtain ⟨r10, h91, hq⟩ := hq
    subst h91
    have hF := hF r10 X8 hH.2.2.1 Y9 hH.2.2.2 hq
    refine zd_ifB_eq C 47 dX11_logLine_33 (by decide) (fun c11 => ?_) (fun c11 => ?_)
    · have hF := hF.1 c11
      refine zd_iconst C dX11_logLine_47 ?_
      exact zd_zret C hr hlk hH hS (by decide) (⟨rfl, _, rfl, hF⟩) dX11_logLine_48
    · have hF := hF.2 c11
      refine lv_aload_n C.1 C.2.1 dX11_logLine_36 rfl (lv_at hl 0 rfl) ?_
      refine zd_iconst C dX11_logLine_37 ?_
      refine zd_iconst C dX11_logLine_38 ?_
      refine zd_bipush C (by decide) dX11_logLine_39 ?_
      obtain ⟨o12, hF⟩ := hF
      refine zgoi (zrunV (As := [.int (zI (1)), .int (zI (0)), .int (zI (14))]) (rest := []) C hE hH hS hl.1 (c_X11_take (l := l) hM (1) (by decide) (0) (by decide) (14) (by decide) o12) k_RX11_181 ⟨Nat.le_of_ble_eq_true rfl, Nat.le_of_ble_eq_true rfl⟩ (zM_n0 hM) (zM_k0 hM) rfl rfl rfl (Nat.le_of_ble_eq_true rfl) dX11_logLine_41 ⟨Nat.zero_le _, Nat.zero_le _⟩) hS (fun rq X13 Y14 Rq H locs hrq hq hH hS => ?_)
      obtain ⟨h9R, hq⟩ := hq
      dsimp only at h9R
      rw [h9R] at hH
      obtain ⟨r15, h91, hq⟩ := hq
      subst h91
      have hF := hF r15 X13 hH.2.2.1 Y14 hH.2.2.2 hq
      refine zd_ifB_ne C 49 dX11_logLine_44 (by decide) (fun c16 => ?_) (fun c16 => ?_)
      · have hF := hF.1 c16
        refine lv_aload_n C.1 C.2.1 dX11_logLine_49 rfl (lv_at hl 0 rfl) ?_
        refine zd_iconst C dX11_logLine_50 ?_
        refine zd_bipush C (by decide) dX11_logLine_51 ?_
        obtain ⟨o17, hF⟩ := hF
        refine zgov (zrunV (As := [.int (zI (2)), .int (zI (8))]) (rest := []) C hE hH hS hl.1 (c_X11_keepRow (l := l) hM (2) (by decide) (8) (by decide) o17) k_RX11_208 ⟨Nat.le_of_ble_eq_true rfl, Nat.le_of_ble_eq_true rfl⟩ (zM_n0 hM) (zM_k0 hM) rfl rfl rfl (Nat.le_of_ble_eq_true rfl) dX11_logLine_53 ⟨Nat.zero_le _, Nat.zero_le _⟩) hS (fun X18 Yq Rq H locs hq hH hS => ?_)
        obtain ⟨h9Y, h9R, hq⟩ := hq
        dsimp only at h9Y h9R
        rw [h9Y, h9R] at hH
        have hF := hF X18 hH.2.2.1 hq
        refine zd_iconst C dX11_logLine_56 ?_
        exact zd_zret C hr hlk hH hS (by decide) (⟨rfl, _, rfl, hF⟩) dX11_logLine_57
      · have hF := hF.2 c16
        refine zd_iconst C dX11_logLine_47 ?_
        exact zd_zret C hr hlk hH hS (by decide) (⟨rfl, _, rfl, hF⟩) dX11_logLine_48
  · have hF := hF.2 c1
    refine lv_aload_n C.1 C.2.1 dX11_logLine_8 rfl (lv_at hl 0 rfl) ?_
    refine zgoi (zrunV (As := []) (rest := []) C hE hH hS hl.1 (c_X11_fails (l := l) hM ) k_RX11_140 ⟨Nat.le_of_ble_eq_true rfl, Nat.le_of_ble_eq_true rfl⟩ (zM_n0 hM) (zM_k0 hM) rfl rfl rfl (Nat.le_of_ble_eq_true rfl) dX11_logLine_9 ⟨Nat.zero_le _, Nat.zero_le _⟩) hS (fun rq X19 Yq Rq H locs hrq hq hH hS => ?_)
    obtain ⟨h9Y, h9R, hq⟩ := hq
    dsimp only at h9Y h9R
    rw [h9Y, h9R] at hH
    obtain ⟨r20, h91, hq⟩ := hq
    subst h91
    have hF := hF r20 X19 hH.2.2.1 hq
    exact zd_zret C hr hlk hH hS bz_01 (⟨rfl, _, rfl, hF⟩) dX11_logLine_12
theorem v_X11_logLine {X Y : Nat → Int → Int} {R : Nat → Int → Option Nat} {i : Nat} (a : Int) (ha : rL a) (b : Int) (hb : rI b) (hp : oRd X i ∧ bnD 3 X i) : F_X11_logLine i X Y R a b := by
  unfold F_X11_logLine
  intro hX hY
  obtain ⟨hr, hbd⟩ := hp
  have hbd' : 0 ≤ X (i + 11) 0 ∧ X (i + 11) 0 ≤ 8 := hbd
  refine ⟨?_, ?_⟩
  · intro c1
    refine ⟨?_, ?_⟩
    · first | omega | exact ⟨by omega, by omega⟩ | decide | assumption | exact ⟨by omega, by omega, by omega⟩ | exact ⟨by decide, by decide⟩
    intro X3
    intro rX3
    intro h1
    rw [ifd] at h1
    refine ⟨?_, ?_⟩
    · rw [h1]
      split
      · exact oRd_k (adF_o.1 _ (by omega)) (adF_o.2 _ (by decide) (by decide)) (adF_o.2 _ (by decide) (by decide)) hr
      · exact hr
    intro X5
    intro rX5
    intro Y6
    intro rY6
    intro h2
    obtain ⟨r3, rX5, k5, u5, v5, w5, g5, l5, qX5, st5⟩ := fu_st (b := b) hr h1 h2
    have qX5n : (X5 i 12).toNat = (X i 12).toNat := by rw [l5]
    refine ⟨?_, ?_⟩
    · exact ⟨rX5, by decide, by decide⟩
    intro r10
    intro X8
    intro rX8
    intro Y9
    intro rY9
    intro h3
    obtain ⟨kX8, uX8, wX8, fX8, tX8⟩ := tk_st rX5 h3
    refine ⟨?_, ?_⟩
    · intro c2
      refine ⟨(k5).tr kX8, fun g => absurd g (by decide), fun s hs hw hb hk => ?_⟩
      have l0 := ln_0 (of := 3) (k := 0) (s := s) hr h1 h2 hs hb hk (fun z => by
        rw [(hs.2.2 z).1 0 (by decide) (by decide)]
        rfl)
      obtain ⟨n0, s0⟩ := l0
      have l1 := ln_s (of := 3) (k := 0) (idx := 0) (lo := 0) (hi := 40) (but := (-1)) rX5 h3 qX5 qX5n n0 s0 (fun z k3 => by
        rw [val_m1 (tkV_b k3).1]
        rfl)
      obtain ⟨n9, x9⟩ := l1.1 c2
      have ek : kwT (X (i + 1)) (X i 12).toNat s.1 3 = 0 := by
        show kwN 3 (wdS X Y i s) = _
        rw [← hw]
        rw [c1]
        rfl
      rw [rdL_l ek (by decide) (rdN_l n9 1)]
      exact ⟨rfl, x9⟩
    intro c3
    have rX8 := (tX8 c3).1
    have xX8 := (tX8 c3).2.1
    have qX8 : X8 (i + 1) = X (i + 1) := (kX8.1 _ (by omega) (by omega) (by omega)).trans qX5
    have qX8n : (X8 i 12).toNat = (X i 12).toNat := by rw [kX8.2.1 12 (by omega)]; exact qX5n
    refine ⟨?_, ?_⟩
    · exact ⟨rX8, by decide, by decide⟩
    intro r15
    intro X13
    intro rX13
    intro Y14
    intro rY14
    intro h4
    obtain ⟨kX13, uX13, wX13, fX13, tX13⟩ := tk_st rX8 h4
    refine ⟨?_, ?_⟩
    · intro c4
      have rX13 := (tX13 c4).1
      have xX13 := (tX13 c4).2.1
      have qX13 : X13 (i + 1) = X (i + 1) := (kX13.1 _ (by omega) (by omega) (by omega)).trans qX8
      have qX13n : (X13 i 12).toNat = (X i 12).toNat := by rw [kX13.2.1 12 (by omega)]; exact qX8n
      refine ⟨?_, ?_⟩
      · rw [uX13, uX8, u5]
        exact ⟨hbd', by decide, by decide, by decide, by omega, by omega⟩
      intro X18
      intro rX18
      intro h5
      obtain ⟨ka, kb, kc⟩ := kr_o (Y := Y14) h5
      refine ⟨(((k5).tr kX8).tr kX13).tr ka, fun _ => ⟨kb rX13, ?_⟩, fun s hs hw hb hk => ?_⟩
      · show 0 ≤ X18 (i + 11) 0 ∧ X18 (i + 11) 0 ≤ 8
        rw [kc, uX13, uX8, u5]
        exact ⟨by omega, by omega⟩
      · have l0 := ln_0 (of := 3) (k := 0) (s := s) hr h1 h2 hs hb hk (fun z => by
          rw [(hs.2.2 z).1 0 (by decide) (by decide)]
          rfl)
        obtain ⟨n0, s0⟩ := l0
        have l1 := ln_s (of := 3) (k := 0) (idx := 0) (lo := 0) (hi := 40) (but := (-1)) rX5 h3 qX5 qX5n n0 s0 (fun z k3 => by
          rw [val_m1 (tkV_b k3).1]
          rfl)
        obtain ⟨k1, v1, w1, f1, n1, s1, z1⟩ := l1.2 c3
        have l2 := ln_s (of := 3) (k := 0) (idx := 1) (lo := 0) (hi := 14) (but := (-1)) rX8 h4 qX8 qX8n n1 s1 (fun z k3 => by
          rw [val_m1 (tkV_b k3).1]
          rfl)
        obtain ⟨k2, v2, w2, f2, n2, s2, z2⟩ := l2.2 c4
        have ek : kwT (X (i + 1)) (X i 12).toNat s.1 3 = 0 := by
          show kwN 3 (wdS X Y i s) = _
          rw [← hw]
          rw [c1]
          rfl
        rw [rdL_n ek (by decide) n2]
        refine ⟨rfl, kr_tl (wd := 2) (most := 8) (vv := (fun j => tkV (X (i + 1)) (X i 12).toNat (ptN (X (i + 1)) (X i 12).toNat (tkN (X (i + 1)) (X i 12).toNat s.1) j))) s2 h5 (by decide) (fun z => ?_) (fun z j hj => ?_) rfl⟩
        · have z0 : (f1L (X (i + 1)) (X i 12).toNat 3 0 s).1 = 0 := (z1 (z2 z))
          have z2 := fl0_n3 (by decide) z0
          have e : decide (8 ≤ s.2.1.1 0) = false := z2.2
          exact Int.not_le.mp (of_decide_eq_false e)
        · have hj : j < 2 := hj
          rcases (show j = 0 ∨ j = 1 by omega) with e | e
          · subst e
            rw [w2]
            show upI _ 1 _ 0 = _
            rw [w1]
            rfl
          · subst e
            rw [w2]
            rfl
    intro c5
    refine ⟨((k5).tr kX8).tr kX13, fun g => absurd g (by decide), fun s hs hw hb hk => ?_⟩
    have l0 := ln_0 (of := 3) (k := 0) (s := s) hr h1 h2 hs hb hk (fun z => by
      rw [(hs.2.2 z).1 0 (by decide) (by decide)]
      rfl)
    obtain ⟨n0, s0⟩ := l0
    have l1 := ln_s (of := 3) (k := 0) (idx := 0) (lo := 0) (hi := 40) (but := (-1)) rX5 h3 qX5 qX5n n0 s0 (fun z k3 => by
      rw [val_m1 (tkV_b k3).1]
      rfl)
    obtain ⟨k1, v1, w1, f1, n1, s1, z1⟩ := l1.2 c3
    have l2 := ln_s (of := 3) (k := 0) (idx := 1) (lo := 0) (hi := 14) (but := (-1)) rX8 h4 qX8 qX8n n1 s1 (fun z k3 => by
      rw [val_m1 (tkV_b k3).1]
      rfl)
    obtain ⟨n9, x9⟩ := l2.1 c5
    have ek : kwT (X (i + 1)) (X i 12).toNat s.1 3 = 0 := by
      show kwN 3 (wdS X Y i s) = _
      rw [← hw]
      rw [c1]
      rfl
    rw [rdL_l ek (by decide) (rdN_l n9 0)]
    exact ⟨rfl, x9⟩
  intro c6
  intro r20
  intro X19
  intro rX19
  intro h6
  refine ⟨⟨fun z h1 _ _ => by rw [h6.2, zU_o h1], fun s hs => by rw [h6.2, zU_n (by omega)], fun _ _ => rfl⟩, fun g => (by rw [h6.1] at g; cases g), fun s hs hw hb hk => ?_⟩
  have ek : kwT (X (i + 1)) (X i 12).toNat s.1 3 = -1 := by
    show kwN 3 (wdS X Y i s) = -1
    rw [← hw]
    unfold kwN
    rw [if_neg (by decide), if_neg (by decide), if_neg (by decide), if_pos rfl, if_neg c6]
  rw [rdL_k ek]
  exact ⟨h6.1, by rw [h6.2, zU_s]; exact hs.1.2.2.1⟩
theorem c_X11_logLine {l : Launch} {D : va_G} {cy : Nat → ClassId} {bs N : Nat} {sa : Nat → Nat} {kd len : Nat → Nat} {X Y : Nat → Int → Int} {R : Nat → Int → Option Nat} {i : Nat} (hM : zM N kd len R i) (a : Int) (ha : rL a) (b : Int) (hb : rI b) (hp : oRd X i ∧ bnD 3 X i) : Met l yX11_logLine (.code yX11_logLine cX11_logLine 4 (some .boolean) :: zTB) (zRm 4 91) (zPc D cy bs sa N kd len X Y R [.ref (bs + (i)), .long (zL (a)), .int (zI (b))]) (zQi D cy bs N kd len (fun r st => st.2.2 = R ∧ ∃ rb : Bool, r = bz rb ∧ (lnP 3 (a) (b) X (st.1) Y (st.2.1) i rb))) 0 0 (zA bs) := w_X11_logLine hM a ha b hb (v_X11_logLine a ha b hb hp)
abbrev cX11_poolLine : ByteArray := prog_13_method_29_code
def yX11_poolLine : MethodName := ⟨RX11, "poolLine", "(JI)Z"⟩
theorem dX11_poolLine_0 : decode cX11_poolLine 0 = .ok (.lload_n 1, 1) := by decide +kernel
theorem dX11_poolLine_1 : decode cX11_poolLine 1 = .ok (.ldc2_w 197, 3) := by decide +kernel
theorem dX11_poolLine_4 : decode cX11_poolLine 4 = .ok (.lcmp, 1) := by decide +kernel
theorem dX11_poolLine_5 : decode cX11_poolLine 5 = .ok (.ifCond .eq 8, 3) := by decide +kernel
theorem dX11_poolLine_8 : decode cX11_poolLine 8 = .ok (.aload_n 0, 1) := by decide +kernel
theorem dX11_poolLine_9 : decode cX11_poolLine 9 = .ok (.invokevirtual 140, 3) := by decide +kernel
theorem dX11_poolLine_12 : decode cX11_poolLine 12 = .ok (.ireturn, 1) := by decide +kernel
theorem dX11_poolLine_13 : decode cX11_poolLine 13 = .ok (.aload_n 0, 1) := by decide +kernel
theorem dX11_poolLine_14 : decode cX11_poolLine 14 = .ok (.iconst 0, 1) := by decide +kernel
theorem dX11_poolLine_15 : decode cX11_poolLine 15 = .ok (.bipush 6, 2) := by decide +kernel
theorem dX11_poolLine_17 : decode cX11_poolLine 17 = .ok (.iload_n 3, 1) := by decide +kernel
theorem dX11_poolLine_18 : decode cX11_poolLine 18 = .ok (.invokevirtual 177, 3) := by decide +kernel
theorem dX11_poolLine_21 : decode cX11_poolLine 21 = .ok (.aload_n 0, 1) := by decide +kernel
theorem dX11_poolLine_22 : decode cX11_poolLine 22 = .ok (.invokevirtual 152, 3) := by decide +kernel
theorem dX11_poolLine_25 : decode cX11_poolLine 25 = .ok (.aload_n 0, 1) := by decide +kernel
theorem dX11_poolLine_26 : decode cX11_poolLine 26 = .ok (.iconst 0, 1) := by decide +kernel
theorem dX11_poolLine_27 : decode cX11_poolLine 27 = .ok (.iconst 0, 1) := by decide +kernel
theorem dX11_poolLine_28 : decode cX11_poolLine 28 = .ok (.iconst 5, 1) := by decide +kernel
theorem dX11_poolLine_29 : decode cX11_poolLine 29 = .ok (.invokevirtual 181, 3) := by decide +kernel
theorem dX11_poolLine_32 : decode cX11_poolLine 32 = .ok (.ifCond .eq 41, 3) := by decide +kernel
theorem dX11_poolLine_35 : decode cX11_poolLine 35 = .ok (.aload_n 0, 1) := by decide +kernel
theorem dX11_poolLine_36 : decode cX11_poolLine 36 = .ok (.iconst 1, 1) := by decide +kernel
theorem dX11_poolLine_37 : decode cX11_poolLine 37 = .ok (.iconst 0, 1) := by decide +kernel
theorem dX11_poolLine_38 : decode cX11_poolLine 38 = .ok (.iconst 5, 1) := by decide +kernel
theorem dX11_poolLine_39 : decode cX11_poolLine 39 = .ok (.aload_n 0, 1) := by decide +kernel
theorem dX11_poolLine_40 : decode cX11_poolLine 40 = .ok (.getfield 44, 3) := by decide +kernel
theorem dX11_poolLine_43 : decode cX11_poolLine 43 = .ok (.iconst 0, 1) := by decide +kernel
theorem dX11_poolLine_44 : decode cX11_poolLine 44 = .ok (.iaload, 1) := by decide +kernel
theorem dX11_poolLine_45 : decode cX11_poolLine 45 = .ok (.invokevirtual 155, 3) := by decide +kernel
theorem dX11_poolLine_48 : decode cX11_poolLine 48 = .ok (.ifCond .eq 25, 3) := by decide +kernel
theorem dX11_poolLine_51 : decode cX11_poolLine 51 = .ok (.aload_n 0, 1) := by decide +kernel
theorem dX11_poolLine_52 : decode cX11_poolLine 52 = .ok (.iconst 2, 1) := by decide +kernel
theorem dX11_poolLine_53 : decode cX11_poolLine 53 = .ok (.iconst 1, 1) := by decide +kernel
theorem dX11_poolLine_54 : decode cX11_poolLine 54 = .ok (.bipush 99, 2) := by decide +kernel
theorem dX11_poolLine_56 : decode cX11_poolLine 56 = .ok (.invokevirtual 181, 3) := by decide +kernel
theorem dX11_poolLine_59 : decode cX11_poolLine 59 = .ok (.ifCond .eq 14, 3) := by decide +kernel
theorem dX11_poolLine_62 : decode cX11_poolLine 62 = .ok (.aload_n 0, 1) := by decide +kernel
theorem dX11_poolLine_63 : decode cX11_poolLine 63 = .ok (.iconst 3, 1) := by decide +kernel
theorem dX11_poolLine_64 : decode cX11_poolLine 64 = .ok (.iconst 0, 1) := by decide +kernel
theorem dX11_poolLine_65 : decode cX11_poolLine 65 = .ok (.bipush 9, 2) := by decide +kernel
theorem dX11_poolLine_67 : decode cX11_poolLine 67 = .ok (.invokevirtual 181, 3) := by decide +kernel
theorem dX11_poolLine_70 : decode cX11_poolLine 70 = .ok (.ifCond .ne 5, 3) := by decide +kernel
theorem dX11_poolLine_73 : decode cX11_poolLine 73 = .ok (.iconst 0, 1) := by decide +kernel
theorem dX11_poolLine_74 : decode cX11_poolLine 74 = .ok (.ireturn, 1) := by decide +kernel
theorem dX11_poolLine_75 : decode cX11_poolLine 75 = .ok (.aload_n 0, 1) := by decide +kernel
theorem dX11_poolLine_76 : decode cX11_poolLine 76 = .ok (.iconst 4, 1) := by decide +kernel
theorem dX11_poolLine_77 : decode cX11_poolLine 77 = .ok (.bipush 6, 2) := by decide +kernel
theorem dX11_poolLine_79 : decode cX11_poolLine 79 = .ok (.invokevirtual 208, 3) := by decide +kernel
theorem dX11_poolLine_82 : decode cX11_poolLine 82 = .ok (.iconst 1, 1) := by decide +kernel
theorem dX11_poolLine_83 : decode cX11_poolLine 83 = .ok (.ireturn, 1) := by decide +kernel
theorem q_1576 : Cond.constantLong RX11 197 (zL (7364985)) ∈ zTB := zmem 1576 (by decide +kernel) rfl
def F_X11_poolLine (i : Nat) (X Y : Nat → Int → Int) (R : Nat → Int → Option Nat) (a : Int) (b : Int) : Prop := (∀ i j, rI (X i j)) → (∀ i j, rL (Y i j)) → ((a = (7364985)) → ((0 ≤ (0 : Int) ∧ (0 : Int) < 183) ∧ (∀ X3 : Nat → Int → Int, (∀ i j, rI (X3 i j)) → ((X3) = if (6 : Int) ≤ X (i + 11) ((0 : Int)) then adF X i 3 (b) else X) → ((oRd X3 i) ∧ (∀ X5 : Nat → Int → Int, (∀ i j, rI (X5 i j)) → ∀ Y6 : Nat → Int → Int, (∀ i j, rL (Y6 i j)) → (tkC X3 (X5) Y (Y6) i ∧ (X5) i 11 = tkN (X3 (i + 1)) (X3 i 12).toNat (X3 i 11).toNat ∧ (X5) i 13 = tkB (X3 (i + 1)) (X3 i 12).toNat (X3 i 11).toNat ∧ (X5) i 14 = tkS (X3 (i + 1)) (X3 i 12).toNat (X3 i 11).toNat ∧ ((X5) i 14 = 3 → (X5) i 15 = tkV (X3 (i + 1)) (X3 i 12).toNat (X3 i 11).toNat) ∧ ((X5) i 14 = 2 → (Y6) i 16 = tkW (X3 (i + 1)) (X3 i 12).toNat (X3 i 11).toNat)) → ((oRd X5 i ∧ 0 ≤ (0 : Int) ∧ (0 : Int) < 4) ∧ (∀ r10 : Bool, ∀ X8 : Nat → Int → Int, (∀ i j, rI (X8 i j)) → ∀ Y9 : Nat → Int → Int, (∀ i j, rL (Y9 i j)) → (r10 = decide (X5 i 14 = 3) ∧ (r10 = false → (X8) = zU X5 i 17 (X5 i 13) ∧ (Y9) = Y6) ∧ (r10 = true → tkC (tbX X5 i ((0 : Int)) ((0 : Int)) ((5 : Int)) (-1)) (X8) Y6 (Y9) i ∧ tkAt (X8) (Y9) i (X5 i 11).toNat ∧ oRd (X8) i)) → (((r10 = false) → (lnP 4 (a) (b) X (X8) Y (Y9) i false)) ∧ ((r10 = true) → ((oRd X8 i ∧ 0 ≤ (1 : Int) ∧ (1 : Int) < 4) ∧ (∀ r15 : Bool, ∀ X13 : Nat → Int → Int, (∀ i j, rI (X13 i j)) → ∀ Y14 : Nat → Int → Int, (∀ i j, rL (Y14 i j)) → (r15 = decide (X8 i 14 = 3) ∧ (r15 = false → (X13) = zU X8 i 17 (X8 i 13) ∧ (Y14) = Y9) ∧ (r15 = true → tkC (tbX X8 i ((1 : Int)) ((0 : Int)) ((5 : Int)) (X8 (i + 12) (0))) (X13) Y9 (Y14) i ∧ tkAt (X13) (Y14) i (X8 i 11).toNat ∧ oRd (X13) i)) → (((r15 = false) → (lnP 4 (a) (b) X (X13) Y (Y14) i false)) ∧ ((r15 = true) → ((oRd X13 i ∧ 0 ≤ (2 : Int) ∧ (2 : Int) < 4) ∧ (∀ r20 : Bool, ∀ X18 : Nat → Int → Int, (∀ i j, rI (X18 i j)) → ∀ Y19 : Nat → Int → Int, (∀ i j, rL (Y19 i j)) → (r20 = decide (X13 i 14 = 3) ∧ (r20 = false → (X18) = zU X13 i 17 (X13 i 13) ∧ (Y19) = Y14) ∧ (r20 = true → tkC (tbX X13 i ((2 : Int)) ((1 : Int)) ((99 : Int)) (-1)) (X18) Y14 (Y19) i ∧ tkAt (X18) (Y19) i (X13 i 11).toNat ∧ oRd (X18) i)) → (((r20 = false) → (lnP 4 (a) (b) X (X18) Y (Y19) i false)) ∧ ((r20 = true) → ((oRd X18 i ∧ 0 ≤ (3 : Int) ∧ (3 : Int) < 4) ∧ (∀ r25 : Bool, ∀ X23 : Nat → Int → Int, (∀ i j, rI (X23 i j)) → ∀ Y24 : Nat → Int → Int, (∀ i j, rL (Y24 i j)) → (r25 = decide (X18 i 14 = 3) ∧ (r25 = false → (X23) = zU X18 i 17 (X18 i 13) ∧ (Y24) = Y19) ∧ (r25 = true → tkC (tbX X18 i ((3 : Int)) ((0 : Int)) ((9 : Int)) (-1)) (X23) Y19 (Y24) i ∧ tkAt (X23) (Y24) i (X18 i 11).toNat ∧ oRd (X23) i)) → (((r25 = true) → (((0 ≤ X23 (i + 11) 0 ∧ X23 (i + 11) 0 ≤ (6 : Int)) ∧ (1 ≤ (4 : Int) ∧ (4 : Int) ≤ 4) ∧ (0 ≤ (6 : Int) ∧ (6 : Int) ≤ 40) ∧ ((4 : Int)) * ((6 : Int)) ≤ 100 ∧ (((4 : Int)) * (X23 (i + 11) 0) ≤ ((4 : Int)) * ((6 : Int)) - ((4 : Int)) ∨ (6 : Int) = X23 (i + 11) 0) ∧ 0 ≤ ((4 : Int)) * (X23 (i + 11) 0)) ∧ (∀ X28 : Nat → Int → Int, (∀ i j, rI (X28 i j)) → (krP X23 (X28) i ((4 : Int)) ((6 : Int))) → (lnP 4 (a) (b) X (X28) Y (Y24) i true)))) ∧ ((r25 = false) → (lnP 4 (a) (b) X (X23) Y (Y24) i false)))))))))))))))))))))) ∧ ((¬ (a = (7364985))) → (∀ r30 : Bool, ∀ X29 : Nat → Int → Int, (∀ i j, rI (X29 i j)) → (r30 = false ∧ (X29) = zU X i 17 (X i 13)) → (lnP 4 (a) (b) X (X29) Y (Y) i r30)))
set_option maxHeartbeats 4000000 in
set_option maxRecDepth 100000 in
theorem w_X11_poolLine {l : Launch} {D : va_G} {cy : Nat → ClassId} {bs N : Nat} {sa : Nat → Nat} {kd len : Nat → Nat} {X Y : Nat → Int → Int} {R : Nat → Int → Option Nat} {i : Nat} (hM : zM N kd len R i) (a : Int) (ha : rL a) (b : Int) (hb : rI b) (hF : F_X11_poolLine i X Y R a b) : Met l yX11_poolLine (.code yX11_poolLine cX11_poolLine 4 (some .boolean) :: zTB) (zRm 4 91) (zPc D cy bs sa N kd len X Y R [.ref (bs + (i)), .long (zL (a)), .int (zI (b))]) (zQi D cy bs N kd len (fun r st => st.2.2 = R ∧ ∃ rb : Bool, r = bz rb ∧ (lnP 4 (a) (b) X (st.1) Y (st.2.1) i rb))) 0 0 (zA bs) := by
  refine zstart (by decide) (Nat.le_of_ble_eq_true rfl) ?_
  intro p e s m args below meth c ls C hE hH hr hlk hnm hl hargs
  have hF := hF hH.2.2.1 hH.2.2.2
  have hS : va_S (zA bs) s.heap s.heap [] := va_S.rf
  have hl : lv_has ls 4 [(0, .ref (bs + (i))), (1, .long (zL (a))), (3, .int (zI (b)))] := hl
  refine lv_lload_n C.1 C.2.1 dX11_poolLine_0 rfl (lv_at hl 1 rfl) ?_
  refine lv_ldc2 (v := zL (7364985)) C.1 C.2.1 C.2.2.2.1 (C.2.2.2.2.1 _ q_1576) dX11_poolLine_1 ?_
  refine zd_lcmp C ha (by decide) dX11_poolLine_4 ?_
  refine zd_ifL_eq C 13 dX11_poolLine_5 (by decide) (fun c1 => ?_) (fun c1 => ?_)
  · have hF := hF.1 c1
    refine lv_aload_n C.1 C.2.1 dX11_poolLine_13 rfl (lv_at hl 0 rfl) ?_
    refine zd_iconst C dX11_poolLine_14 ?_
    refine zd_bipush C (by decide) dX11_poolLine_15 ?_
    refine lv_iload_n C.1 C.2.1 dX11_poolLine_17 rfl (lv_at hl 2 rfl) ?_
    obtain ⟨o2, hF⟩ := hF
    refine zgov (zrunV (As := [.int (zI (0)), .int (zI (6)), .int (zI (b))]) (rest := []) C hE hH hS hl.1 (c_X11_full (l := l) hM (0) (by decide) (6) (by decide) (b) hb o2) k_RX11_177 ⟨Nat.le_of_ble_eq_true rfl, Nat.le_of_ble_eq_true rfl⟩ (zM_n0 hM) (zM_k0 hM) rfl rfl rfl (Nat.le_of_ble_eq_true rfl) dX11_poolLine_18 ⟨Nat.zero_le _, Nat.zero_le _⟩) hS (fun X3 Yq Rq H locs hq hH hS => ?_)
    obtain ⟨h9Y, h9R, hq⟩ := hq
    dsimp only at h9Y h9R
    rw [h9Y, h9R] at hH
    have hF := hF X3 hH.2.2.1 hq
    refine lv_aload_n C.1 C.2.1 dX11_poolLine_21 rfl (lv_at hl 0 rfl) ?_
    obtain ⟨o4, hF⟩ := hF
    refine zgov (zrunV (As := []) (rest := []) C hE hH hS hl.1 (c_X11_token (l := l) hM  o4) k_RX11_152 ⟨Nat.le_of_ble_eq_true rfl, Nat.le_of_ble_eq_true rfl⟩ (zM_n0 hM) (zM_k0 hM) rfl rfl rfl (Nat.le_of_ble_eq_true rfl) dX11_poolLine_22 ⟨Nat.zero_le _, Nat.zero_le _⟩) hS (fun X5 Y6 Rq H locs hq hH hS => ?_)
    obtain ⟨h9R, hq⟩ := hq
    dsimp only at h9R
    rw [h9R] at hH
    have hF := hF X5 hH.2.2.1 Y6 hH.2.2.2 hq
    refine lv_aload_n C.1 C.2.1 dX11_poolLine_25 rfl (lv_at hl 0 rfl) ?_
    refine zd_iconst C dX11_poolLine_26 ?_
    refine zd_iconst C dX11_poolLine_27 ?_
    refine zd_iconst C dX11_poolLine_28 ?_
    obtain ⟨o7, hF⟩ := hF
    refine zgoi (zrunV (As := [.int (zI (0)), .int (zI (0)), .int (zI (5))]) (rest := []) C hE hH hS hl.1 (c_X11_take (l := l) hM (0) (by decide) (0) (by decide) (5) (by decide) o7) k_RX11_181 ⟨Nat.le_of_ble_eq_true rfl, Nat.le_of_ble_eq_true rfl⟩ (zM_n0 hM) (zM_k0 hM) rfl rfl rfl (Nat.le_of_ble_eq_true rfl) dX11_poolLine_29 ⟨Nat.zero_le _, Nat.zero_le _⟩) hS (fun rq X8 Y9 Rq H locs hrq hq hH hS => ?_)
    obtain ⟨h9R, hq⟩ := hq
    dsimp only at h9R
    rw [h9R] at hH
    obtain ⟨r10, h91, hq⟩ := hq
    subst h91
    have hF := hF r10 X8 hH.2.2.1 Y9 hH.2.2.2 hq
    refine zd_ifB_eq C 73 dX11_poolLine_32 (by decide) (fun c11 => ?_) (fun c11 => ?_)
    · have hF := hF.1 c11
      refine zd_iconst C dX11_poolLine_73 ?_
      exact zd_zret C hr hlk hH hS (by decide) (⟨rfl, _, rfl, hF⟩) dX11_poolLine_74
    · have hF := hF.2 c11
      refine lv_aload_n C.1 C.2.1 dX11_poolLine_35 rfl (lv_at hl 0 rfl) ?_
      refine zd_iconst C dX11_poolLine_36 ?_
      refine zd_iconst C dX11_poolLine_37 ?_
      refine zd_iconst C dX11_poolLine_38 ?_
      refine lv_aload_n C.1 C.2.1 dX11_poolLine_39 rfl (lv_at hl 0 rfl) ?_
      refine zg11_21 C hH (zM_n0 hM) (zM_k0 hM) q_1308 (zM_r12 hM) dX11_poolLine_40 ?_
      refine zd_iconst C dX11_poolLine_43 ?_
      refine zd_iald C hH (zM_n12 hM) (zM_k12 hM) (by decide) (by rw [zM_l12 hM]; decide) (by rw [zM_l12 hM]; decide) dX11_poolLine_44 ?_
      obtain ⟨o12, hF⟩ := hF
      refine zgoi (zrunV (As := [.int (zI (1)), .int (zI (0)), .int (zI (5)), .int (zI (X8 (i + 12) (0)))]) (rest := []) C hE hH hS hl.1 (c_X11_takeBut (l := l) hM (1) (by decide) (0) (by decide) (5) (by decide) (X8 (i + 12) (0)) (hH.2.2.1 _ _) o12) k_RX11_155 ⟨Nat.le_of_ble_eq_true rfl, Nat.le_of_ble_eq_true rfl⟩ (zM_n0 hM) (zM_k0 hM) rfl rfl rfl (Nat.le_of_ble_eq_true rfl) dX11_poolLine_45 ⟨Nat.zero_le _, Nat.zero_le _⟩) hS (fun rq X13 Y14 Rq H locs hrq hq hH hS => ?_)
      obtain ⟨h9R, hq⟩ := hq
      dsimp only at h9R
      rw [h9R] at hH
      obtain ⟨r15, h91, hq⟩ := hq
      subst h91
      have hF := hF r15 X13 hH.2.2.1 Y14 hH.2.2.2 hq
      refine zd_ifB_eq C 73 dX11_poolLine_48 (by decide) (fun c16 => ?_) (fun c16 => ?_)
      · have hF := hF.1 c16
        refine zd_iconst C dX11_poolLine_73 ?_
        exact zd_zret C hr hlk hH hS (by decide) (⟨rfl, _, rfl, hF⟩) dX11_poolLine_74
      · have hF := hF.2 c16
        refine lv_aload_n C.1 C.2.1 dX11_poolLine_51 rfl (lv_at hl 0 rfl) ?_
        refine zd_iconst C dX11_poolLine_52 ?_
        refine zd_iconst C dX11_poolLine_53 ?_
        refine zd_bipush C (by decide) dX11_poolLine_54 ?_
        obtain ⟨o17, hF⟩ := hF
        refine zgoi (zrunV (As := [.int (zI (2)), .int (zI (1)), .int (zI (99))]) (rest := []) C hE hH hS hl.1 (c_X11_take (l := l) hM (2) (by decide) (1) (by decide) (99) (by decide) o17) k_RX11_181 ⟨Nat.le_of_ble_eq_true rfl, Nat.le_of_ble_eq_true rfl⟩ (zM_n0 hM) (zM_k0 hM) rfl rfl rfl (Nat.le_of_ble_eq_true rfl) dX11_poolLine_56 ⟨Nat.zero_le _, Nat.zero_le _⟩) hS (fun rq X18 Y19 Rq H locs hrq hq hH hS => ?_)
        obtain ⟨h9R, hq⟩ := hq
        dsimp only at h9R
        rw [h9R] at hH
        obtain ⟨r20, h91, hq⟩ := hq
        subst h91
        have hF := hF r20 X18 hH.2.2.1 Y19 hH.2.2.2 hq
        refine zd_ifB_eq C 73 dX11_poolLine_59 (by decide) (fun c21 => ?_) (fun c21 => ?_)
        · have hF := hF.1 c21
          refine zd_iconst C dX11_poolLine_73 ?_
          exact zd_zret C hr hlk hH hS (by decide) (⟨rfl, _, rfl, hF⟩) dX11_poolLine_74
        · have hF := hF.2 c21
          refine lv_aload_n C.1 C.2.1 dX11_poolLine_62 rfl (lv_at hl 0 rfl) ?_
          refine zd_iconst C dX11_poolLine_63 ?_
          refine zd_iconst C dX11_poolLine_64 ?_
          refine zd_bipush C (by decide) dX11_poolLine_65 ?_
          obtain ⟨o22, hF⟩ := hF
          refine zgoi (zrunV (As := [.int (zI (3)), .int (zI (0)), .int (zI (9))]) (rest := []) C hE hH hS hl.1 (c_X11_take (l := l) hM (3) (by decide) (0) (by decide) (9) (by decide) o22) k_RX11_181 ⟨Nat.le_of_ble_eq_true rfl, Nat.le_of_ble_eq_true rfl⟩ (zM_n0 hM) (zM_k0 hM) rfl rfl rfl (Nat.le_of_ble_eq_true rfl) dX11_poolLine_67 ⟨Nat.zero_le _, Nat.zero_le _⟩) hS (fun rq X23 Y24 Rq H locs hrq hq hH hS => ?_)
          obtain ⟨h9R, hq⟩ := hq
          dsimp only at h9R
          rw [h9R] at hH
          obtain ⟨r25, h91, hq⟩ := hq
          subst h91
          have hF := hF r25 X23 hH.2.2.1 Y24 hH.2.2.2 hq
          refine zd_ifB_ne C 75 dX11_poolLine_70 (by decide) (fun c26 => ?_) (fun c26 => ?_)
          · have hF := hF.1 c26
            refine lv_aload_n C.1 C.2.1 dX11_poolLine_75 rfl (lv_at hl 0 rfl) ?_
            refine zd_iconst C dX11_poolLine_76 ?_
            refine zd_bipush C (by decide) dX11_poolLine_77 ?_
            obtain ⟨o27, hF⟩ := hF
            refine zgov (zrunV (As := [.int (zI (4)), .int (zI (6))]) (rest := []) C hE hH hS hl.1 (c_X11_keepRow (l := l) hM (4) (by decide) (6) (by decide) o27) k_RX11_208 ⟨Nat.le_of_ble_eq_true rfl, Nat.le_of_ble_eq_true rfl⟩ (zM_n0 hM) (zM_k0 hM) rfl rfl rfl (Nat.le_of_ble_eq_true rfl) dX11_poolLine_79 ⟨Nat.zero_le _, Nat.zero_le _⟩) hS (fun X28 Yq Rq H locs hq hH hS => ?_)
            obtain ⟨h9Y, h9R, hq⟩ := hq
            dsimp only at h9Y h9R
            rw [h9Y, h9R] at hH
            have hF := hF X28 hH.2.2.1 hq
            refine zd_iconst C dX11_poolLine_82 ?_
            exact zd_zret C hr hlk hH hS (by decide) (⟨rfl, _, rfl, hF⟩) dX11_poolLine_83
          · have hF := hF.2 c26
            refine zd_iconst C dX11_poolLine_73 ?_
            exact zd_zret C hr hlk hH hS (by decide) (⟨rfl, _, rfl, hF⟩) dX11_poolLine_74
  · have hF := hF.2 c1
    refine lv_aload_n C.1 C.2.1 dX11_poolLine_8 rfl (lv_at hl 0 rfl) ?_
    refine zgoi (zrunV (As := []) (rest := []) C hE hH hS hl.1 (c_X11_fails (l := l) hM ) k_RX11_140 ⟨Nat.le_of_ble_eq_true rfl, Nat.le_of_ble_eq_true rfl⟩ (zM_n0 hM) (zM_k0 hM) rfl rfl rfl (Nat.le_of_ble_eq_true rfl) dX11_poolLine_9 ⟨Nat.zero_le _, Nat.zero_le _⟩) hS (fun rq X29 Yq Rq H locs hrq hq hH hS => ?_)
    obtain ⟨h9Y, h9R, hq⟩ := hq
    dsimp only at h9Y h9R
    rw [h9Y, h9R] at hH
    obtain ⟨r30, h91, hq⟩ := hq
    subst h91
    have hF := hF r30 X29 hH.2.2.1 hq
    exact zd_zret C hr hlk hH hS bz_01 (⟨rfl, _, rfl, hF⟩) dX11_poolLine_12
theorem v_X11_poolLine {X Y : Nat → Int → Int} {R : Nat → Int → Option Nat} {i : Nat} (a : Int) (ha : rL a) (b : Int) (hb : rI b) (hp : oRd X i ∧ bnD 4 X i) : F_X11_poolLine i X Y R a b := by
  unfold F_X11_poolLine
  intro hX hY
  obtain ⟨hr, hbd⟩ := hp
  have hbd' : 0 ≤ X (i + 11) 0 ∧ X (i + 11) 0 ≤ 6 := hbd
  refine ⟨?_, ?_⟩
  · intro c1
    refine ⟨?_, ?_⟩
    · first | omega | exact ⟨by omega, by omega⟩ | decide | assumption | exact ⟨by omega, by omega, by omega⟩ | exact ⟨by decide, by decide⟩
    intro X3
    intro rX3
    intro h1
    rw [ifd] at h1
    refine ⟨?_, ?_⟩
    · rw [h1]
      split
      · exact oRd_k (adF_o.1 _ (by omega)) (adF_o.2 _ (by decide) (by decide)) (adF_o.2 _ (by decide) (by decide)) hr
      · exact hr
    intro X5
    intro rX5
    intro Y6
    intro rY6
    intro h2
    obtain ⟨r3, rX5, k5, u5, v5, w5, g5, l5, qX5, st5⟩ := fu_st (b := b) hr h1 h2
    have qX5n : (X5 i 12).toNat = (X i 12).toNat := by rw [l5]
    refine ⟨?_, ?_⟩
    · exact ⟨rX5, by decide, by decide⟩
    intro r10
    intro X8
    intro rX8
    intro Y9
    intro rY9
    intro h3
    obtain ⟨kX8, uX8, wX8, fX8, tX8⟩ := tk_st rX5 h3
    refine ⟨?_, ?_⟩
    · intro c2
      refine ⟨(k5).tr kX8, fun g => absurd g (by decide), fun s hs hw hb hk => ?_⟩
      have l0 := ln_0 (of := 4) (k := 0) (s := s) hr h1 h2 hs hb hk (fun z => by
        rw [(hs.2.2 z).1 0 (by decide) (by decide)]
        rfl)
      obtain ⟨n0, s0⟩ := l0
      have l1 := ln_s (of := 4) (k := 0) (idx := 0) (lo := 0) (hi := 5) (but := (-1)) rX5 h3 qX5 qX5n n0 s0 (fun z k3 => by
        rw [val_m1 (tkV_b k3).1]
        rfl)
      obtain ⟨n9, x9⟩ := l1.1 c2
      have ek : kwT (X (i + 1)) (X i 12).toNat s.1 4 = 0 := by
        show kwN 4 (wdS X Y i s) = _
        rw [← hw]
        rw [c1]
        rfl
      rw [rdL_l ek (by decide) (rdN_l n9 3)]
      exact ⟨rfl, x9⟩
    intro c3
    have rX8 := (tX8 c3).1
    have xX8 := (tX8 c3).2.1
    have qX8 : X8 (i + 1) = X (i + 1) := (kX8.1 _ (by omega) (by omega) (by omega)).trans qX5
    have qX8n : (X8 i 12).toNat = (X i 12).toNat := by rw [kX8.2.1 12 (by omega)]; exact qX5n
    refine ⟨?_, ?_⟩
    · exact ⟨rX8, by decide, by decide⟩
    intro r15
    intro X13
    intro rX13
    intro Y14
    intro rY14
    intro h4
    obtain ⟨kX13, uX13, wX13, fX13, tX13⟩ := tk_st rX8 h4
    refine ⟨?_, ?_⟩
    · intro c4
      refine ⟨((k5).tr kX8).tr kX13, fun g => absurd g (by decide), fun s hs hw hb hk => ?_⟩
      have l0 := ln_0 (of := 4) (k := 0) (s := s) hr h1 h2 hs hb hk (fun z => by
        rw [(hs.2.2 z).1 0 (by decide) (by decide)]
        rfl)
      obtain ⟨n0, s0⟩ := l0
      have l1 := ln_s (of := 4) (k := 0) (idx := 0) (lo := 0) (hi := 5) (but := (-1)) rX5 h3 qX5 qX5n n0 s0 (fun z k3 => by
        rw [val_m1 (tkV_b k3).1]
        rfl)
      obtain ⟨k1, v1, w1, f1, n1, s1, z1⟩ := l1.2 c3
      have l2 := ln_s (of := 4) (k := 0) (idx := 1) (lo := 0) (hi := 5) (but := (X8 (i + 12) 0)) rX8 h4 qX8 qX8n n1 s1 (fun z k3 => by
        rw [w1]
        rfl)
      obtain ⟨n9, x9⟩ := l2.1 c4
      have ek : kwT (X (i + 1)) (X i 12).toNat s.1 4 = 0 := by
        show kwN 4 (wdS X Y i s) = _
        rw [← hw]
        rw [c1]
        rfl
      rw [rdL_l ek (by decide) (rdN_l n9 2)]
      exact ⟨rfl, x9⟩
    intro c5
    have rX13 := (tX13 c5).1
    have xX13 := (tX13 c5).2.1
    have qX13 : X13 (i + 1) = X (i + 1) := (kX13.1 _ (by omega) (by omega) (by omega)).trans qX8
    have qX13n : (X13 i 12).toNat = (X i 12).toNat := by rw [kX13.2.1 12 (by omega)]; exact qX8n
    refine ⟨?_, ?_⟩
    · exact ⟨rX13, by decide, by decide⟩
    intro r20
    intro X18
    intro rX18
    intro Y19
    intro rY19
    intro h5
    obtain ⟨kX18, uX18, wX18, fX18, tX18⟩ := tk_st rX13 h5
    refine ⟨?_, ?_⟩
    · intro c6
      refine ⟨(((k5).tr kX8).tr kX13).tr kX18, fun g => absurd g (by decide), fun s hs hw hb hk => ?_⟩
      have l0 := ln_0 (of := 4) (k := 0) (s := s) hr h1 h2 hs hb hk (fun z => by
        rw [(hs.2.2 z).1 0 (by decide) (by decide)]
        rfl)
      obtain ⟨n0, s0⟩ := l0
      have l1 := ln_s (of := 4) (k := 0) (idx := 0) (lo := 0) (hi := 5) (but := (-1)) rX5 h3 qX5 qX5n n0 s0 (fun z k3 => by
        rw [val_m1 (tkV_b k3).1]
        rfl)
      obtain ⟨k1, v1, w1, f1, n1, s1, z1⟩ := l1.2 c3
      have l2 := ln_s (of := 4) (k := 0) (idx := 1) (lo := 0) (hi := 5) (but := (X8 (i + 12) 0)) rX8 h4 qX8 qX8n n1 s1 (fun z k3 => by
        rw [w1]
        rfl)
      obtain ⟨k2, v2, w2, f2, n2, s2, z2⟩ := l2.2 c5
      have l3 := ln_s (of := 4) (k := 0) (idx := 2) (lo := 1) (hi := 99) (but := (-1)) rX13 h5 qX13 qX13n n2 s2 (fun z k3 => by
        rw [val_m1 (tkV_b k3).1]
        rfl)
      obtain ⟨n9, x9⟩ := l3.1 c6
      have ek : kwT (X (i + 1)) (X i 12).toNat s.1 4 = 0 := by
        show kwN 4 (wdS X Y i s) = _
        rw [← hw]
        rw [c1]
        rfl
      rw [rdL_l ek (by decide) (rdN_l n9 1)]
      exact ⟨rfl, x9⟩
    intro c7
    have rX18 := (tX18 c7).1
    have xX18 := (tX18 c7).2.1
    have qX18 : X18 (i + 1) = X (i + 1) := (kX18.1 _ (by omega) (by omega) (by omega)).trans qX13
    have qX18n : (X18 i 12).toNat = (X i 12).toNat := by rw [kX18.2.1 12 (by omega)]; exact qX13n
    refine ⟨?_, ?_⟩
    · exact ⟨rX18, by decide, by decide⟩
    intro r25
    intro X23
    intro rX23
    intro Y24
    intro rY24
    intro h6
    obtain ⟨kX23, uX23, wX23, fX23, tX23⟩ := tk_st rX18 h6
    refine ⟨?_, ?_⟩
    · intro c8
      have rX23 := (tX23 c8).1
      have xX23 := (tX23 c8).2.1
      have qX23 : X23 (i + 1) = X (i + 1) := (kX23.1 _ (by omega) (by omega) (by omega)).trans qX18
      have qX23n : (X23 i 12).toNat = (X i 12).toNat := by rw [kX23.2.1 12 (by omega)]; exact qX18n
      refine ⟨?_, ?_⟩
      · rw [uX23, uX18, uX13, uX8, u5]
        exact ⟨hbd', by decide, by decide, by decide, by omega, by omega⟩
      intro X28
      intro rX28
      intro h7
      obtain ⟨ka, kb, kc⟩ := kr_o (Y := Y24) h7
      refine ⟨(((((k5).tr kX8).tr kX13).tr kX18).tr kX23).tr ka, fun _ => ⟨kb rX23, ?_⟩, fun s hs hw hb hk => ?_⟩
      · show 0 ≤ X28 (i + 11) 0 ∧ X28 (i + 11) 0 ≤ 6
        rw [kc, uX23, uX18, uX13, uX8, u5]
        exact ⟨by omega, by omega⟩
      · have l0 := ln_0 (of := 4) (k := 0) (s := s) hr h1 h2 hs hb hk (fun z => by
          rw [(hs.2.2 z).1 0 (by decide) (by decide)]
          rfl)
        obtain ⟨n0, s0⟩ := l0
        have l1 := ln_s (of := 4) (k := 0) (idx := 0) (lo := 0) (hi := 5) (but := (-1)) rX5 h3 qX5 qX5n n0 s0 (fun z k3 => by
          rw [val_m1 (tkV_b k3).1]
          rfl)
        obtain ⟨k1, v1, w1, f1, n1, s1, z1⟩ := l1.2 c3
        have l2 := ln_s (of := 4) (k := 0) (idx := 1) (lo := 0) (hi := 5) (but := (X8 (i + 12) 0)) rX8 h4 qX8 qX8n n1 s1 (fun z k3 => by
          rw [w1]
          rfl)
        obtain ⟨k2, v2, w2, f2, n2, s2, z2⟩ := l2.2 c5
        have l3 := ln_s (of := 4) (k := 0) (idx := 2) (lo := 1) (hi := 99) (but := (-1)) rX13 h5 qX13 qX13n n2 s2 (fun z k3 => by
          rw [val_m1 (tkV_b k3).1]
          rfl)
        obtain ⟨k3, v3, w3, f3, n3, s3, z3⟩ := l3.2 c7
        have l4 := ln_s (of := 4) (k := 0) (idx := 3) (lo := 0) (hi := 9) (but := (-1)) rX18 h6 qX18 qX18n n3 s3 (fun z k3 => by
          rw [val_m1 (tkV_b k3).1]
          rfl)
        obtain ⟨k4, v4, w4, f4, n4, s4, z4⟩ := l4.2 c8
        have ek : kwT (X (i + 1)) (X i 12).toNat s.1 4 = 0 := by
          show kwN 4 (wdS X Y i s) = _
          rw [← hw]
          rw [c1]
          rfl
        rw [rdL_n ek (by decide) n4]
        refine ⟨rfl, kr_tl (wd := 4) (most := 6) (vv := (fun j => tkV (X (i + 1)) (X i 12).toNat (ptN (X (i + 1)) (X i 12).toNat (tkN (X (i + 1)) (X i 12).toNat s.1) j))) s4 h7 (by decide) (fun z => ?_) (fun z j hj => ?_) rfl⟩
        · have z0 : (f1L (X (i + 1)) (X i 12).toNat 4 0 s).1 = 0 := (z1 (z2 (z3 (z4 z))))
          have z2 := fl0_n3 (by decide) z0
          have e : decide (6 ≤ s.2.1.1 0) = false := z2.2
          exact Int.not_le.mp (of_decide_eq_false e)
        · have hj : j < 4 := hj
          rcases (show j = 0 ∨ j = 1 ∨ j = 2 ∨ j = 3 by omega) with e | e | e | e
          · subst e
            rw [w4]
            show upI _ 3 _ 0 = _
            rw [upI_ne (by decide), w3]
            show upI _ 2 _ 0 = _
            rw [upI_ne (by decide), w2]
            show upI _ 1 _ 0 = _
            rw [upI_ne (by decide), w1]
            rfl
          · subst e
            rw [w4]
            show upI _ 3 _ 1 = _
            rw [upI_ne (by decide), w3]
            show upI _ 2 _ 1 = _
            rw [upI_ne (by decide), w2]
            rfl
          · subst e
            rw [w4]
            show upI _ 3 _ 2 = _
            rw [upI_ne (by decide), w3]
            rfl
          · subst e
            rw [w4]
            rfl
    intro c9
    refine ⟨((((k5).tr kX8).tr kX13).tr kX18).tr kX23, fun g => absurd g (by decide), fun s hs hw hb hk => ?_⟩
    have l0 := ln_0 (of := 4) (k := 0) (s := s) hr h1 h2 hs hb hk (fun z => by
      rw [(hs.2.2 z).1 0 (by decide) (by decide)]
      rfl)
    obtain ⟨n0, s0⟩ := l0
    have l1 := ln_s (of := 4) (k := 0) (idx := 0) (lo := 0) (hi := 5) (but := (-1)) rX5 h3 qX5 qX5n n0 s0 (fun z k3 => by
      rw [val_m1 (tkV_b k3).1]
      rfl)
    obtain ⟨k1, v1, w1, f1, n1, s1, z1⟩ := l1.2 c3
    have l2 := ln_s (of := 4) (k := 0) (idx := 1) (lo := 0) (hi := 5) (but := (X8 (i + 12) 0)) rX8 h4 qX8 qX8n n1 s1 (fun z k3 => by
      rw [w1]
      rfl)
    obtain ⟨k2, v2, w2, f2, n2, s2, z2⟩ := l2.2 c5
    have l3 := ln_s (of := 4) (k := 0) (idx := 2) (lo := 1) (hi := 99) (but := (-1)) rX13 h5 qX13 qX13n n2 s2 (fun z k3 => by
      rw [val_m1 (tkV_b k3).1]
      rfl)
    obtain ⟨k3, v3, w3, f3, n3, s3, z3⟩ := l3.2 c7
    have l4 := ln_s (of := 4) (k := 0) (idx := 3) (lo := 0) (hi := 9) (but := (-1)) rX18 h6 qX18 qX18n n3 s3 (fun z k3 => by
      rw [val_m1 (tkV_b k3).1]
      rfl)
    obtain ⟨n9, x9⟩ := l4.1 c9
    have ek : kwT (X (i + 1)) (X i 12).toNat s.1 4 = 0 := by
      show kwN 4 (wdS X Y i s) = _
      rw [← hw]
      rw [c1]
      rfl
    rw [rdL_l ek (by decide) (rdN_l n9 0)]
    exact ⟨rfl, x9⟩
  intro c10
  intro r30
  intro X29
  intro rX29
  intro h8
  refine ⟨⟨fun z h1 _ _ => by rw [h8.2, zU_o h1], fun s hs => by rw [h8.2, zU_n (by omega)], fun _ _ => rfl⟩, fun g => (by rw [h8.1] at g; cases g), fun s hs hw hb hk => ?_⟩
  have ek : kwT (X (i + 1)) (X i 12).toNat s.1 4 = -1 := by
    show kwN 4 (wdS X Y i s) = -1
    rw [← hw]
    unfold kwN
    rw [if_neg (by decide), if_neg (by decide), if_neg (by decide), if_neg (by decide), if_neg c10]
  rw [rdL_k ek]
  exact ⟨h8.1, by rw [h8.2, zU_s]; exact hs.1.2.2.1⟩
theorem c_X11_poolLine {l : Launch} {D : va_G} {cy : Nat → ClassId} {bs N : Nat} {sa : Nat → Nat} {kd len : Nat → Nat} {X Y : Nat → Int → Int} {R : Nat → Int → Option Nat} {i : Nat} (hM : zM N kd len R i) (a : Int) (ha : rL a) (b : Int) (hb : rI b) (hp : oRd X i ∧ bnD 4 X i) : Met l yX11_poolLine (.code yX11_poolLine cX11_poolLine 4 (some .boolean) :: zTB) (zRm 4 91) (zPc D cy bs sa N kd len X Y R [.ref (bs + (i)), .long (zL (a)), .int (zI (b))]) (zQi D cy bs N kd len (fun r st => st.2.2 = R ∧ ∃ rb : Bool, r = bz rb ∧ (lnP 4 (a) (b) X (st.1) Y (st.2.1) i rb))) 0 0 (zA bs) := w_X11_poolLine hM a ha b hb (v_X11_poolLine a ha b hb hp)
