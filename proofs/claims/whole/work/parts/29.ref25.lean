/-! SETS AND COUNTS -/
theorem bS_st {f : Nat → Bool} {q : Nat} {z : Int} (hz : z = bS f q) : (f q = false → zOr z 0 = bS f (q + 1)) ∧ (f q = true → zOr z (zShl 1 q) = bS f (q + 1)) := by
  have st : bS f (q + 1) = if f q then zOr (bS f q) (zShl 1 q) else bS f q := rfl
  refine ⟨fun g => ?_, fun g => ?_⟩
  · rw [st, g, hz]
    show zOr (bS f q) 0 = bS f q
    exact zb_ext (zI_rg _) (bS_rg _ _) (fun j _ => by rw [zb_or, zb_0, Bool.or_false])
  · rw [st, g, hz]
    rfl
def cN (f : Nat → Bool) : Nat → Int
  | 0 => 0
  | q + 1 => cN f q + if f q then 1 else 0
theorem cN_b (f : Nat → Bool) : ∀ q, 0 ≤ cN f q ∧ cN f q ≤ q
  | 0 => ⟨Int.le_refl _, Int.le_refl _⟩
  | q + 1 => by
    have := cN_b f q
    unfold cN
    split
    · exact ⟨by omega, by omega⟩
    · exact ⟨by omega, by omega⟩
theorem cN_st {f : Nat → Bool} {q : Nat} {z : Int} (hz : z = cN f q) : (f q = false → z + 0 = cN f (q + 1)) ∧ (f q = true → z + 1 = cN f (q + 1)) := by
  refine ⟨fun g => ?_, fun g => ?_⟩
  · unfold cN
    rw [g, hz]
    rfl
  · unfold cN
    rw [g, hz]
    rfl
theorem cN_0 {f : Nat → Bool} : ∀ {q : Nat}, (∀ e, e < q → f e = false) → cN f q = 0
  | 0, _ => rfl
  | q + 1, h => by
    unfold cN
    rw [cN_0 (fun e he => h e (by omega)), h q (by omega)]
    rfl
def fMd (X : Nat → Int → Int) (i : Nat) (a : Int) (k : Nat) : Bool := decide (1 ≤ k) && decide (mC X i k 2 = a)
def sWi (W : Nat → Int) (s : Int) : Nat → Int
  | 0 => 0
  | q + 1 => sWi W s q + if decide (1 ≤ q) && mHas s q then W q else 0
theorem sWi_b {W : Nat → Int} {s : Int} : ∀ {q : Nat}, (∀ k, k < q → 1 ≤ W k ∧ W k ≤ 26575110144) → 0 ≤ sWi W s q ∧ sWi W s q ≤ 26575110144 * q
  | 0, _ => ⟨Int.le_refl _, Int.le_refl _⟩
  | q + 1, h => by
    have ih := sWi_b (q := q) (s := s) (fun k hk => h k (by omega))
    have := h q (by omega)
    unfold sWi
    split
    · exact ⟨by omega, by omega⟩
    · exact ⟨by omega, by omega⟩
/-- sound children -/
def fSc (P : Nat → Nat) (w : Nat → Bool) (k e : Nat) : Bool := decide (k < e) && (w e && decide (P e = k))
def fLv (P : Nat → Nat) (w : Nat → Bool) (n k : Nat) : Bool := w k && decide (cN (fSc P w k) n = 0)
def fFk (P : Nat → Nat) (w : Nat → Bool) (n k : Nat) : Bool := w k && decide (1 < cN (fSc P w k) n)
def fTu (P : Nat → Nat) (w : Nat → Bool) (W : Nat → Int) (k : Nat) : Bool := decide (1 ≤ k) && (w k && decide (W k ≠ W (P k)))
abbrev cX11_madeBy : ByteArray := prog_13_method_96_code
def yX11_madeBy : MethodName := ⟨RX11, "madeBy", "(I)I"⟩
theorem dX11_madeBy_0 : decode cX11_madeBy 0 = .ok (.iconst 0, 1) := by decide +kernel
theorem dX11_madeBy_1 : decode cX11_madeBy 1 = .ok (.istore_n 2, 1) := by decide +kernel
theorem dX11_madeBy_2 : decode cX11_madeBy 2 = .ok (.iconst 1, 1) := by decide +kernel
theorem dX11_madeBy_3 : decode cX11_madeBy 3 = .ok (.istore_n 3, 1) := by decide +kernel
theorem dX11_madeBy_4 : decode cX11_madeBy 4 = .ok (.iload_n 3, 1) := by decide +kernel
theorem dX11_madeBy_5 : decode cX11_madeBy 5 = .ok (.aload_n 0, 1) := by decide +kernel
theorem dX11_madeBy_6 : decode cX11_madeBy 6 = .ok (.getfield 255, 3) := by decide +kernel
theorem dX11_madeBy_9 : decode cX11_madeBy 9 = .ok (.if_icmp .ge 29, 3) := by decide +kernel
theorem dX11_madeBy_12 : decode cX11_madeBy 12 = .ok (.iload_n 2, 1) := by decide +kernel
theorem dX11_madeBy_13 : decode cX11_madeBy 13 = .ok (.aload_n 0, 1) := by decide +kernel
theorem dX11_madeBy_14 : decode cX11_madeBy 14 = .ok (.iload_n 3, 1) := by decide +kernel
theorem dX11_madeBy_15 : decode cX11_madeBy 15 = .ok (.iconst 2, 1) := by decide +kernel
theorem dX11_madeBy_16 : decode cX11_madeBy 16 = .ok (.invokevirtual 258, 3) := by decide +kernel
theorem dX11_madeBy_19 : decode cX11_madeBy 19 = .ok (.iload_n 1, 1) := by decide +kernel
theorem dX11_madeBy_20 : decode cX11_madeBy 20 = .ok (.if_icmp .ne 9, 3) := by decide +kernel
theorem dX11_madeBy_23 : decode cX11_madeBy 23 = .ok (.iconst 1, 1) := by decide +kernel
theorem dX11_madeBy_24 : decode cX11_madeBy 24 = .ok (.iload_n 3, 1) := by decide +kernel
theorem dX11_madeBy_25 : decode cX11_madeBy 25 = .ok (.ishl, 1) := by decide +kernel
theorem dX11_madeBy_26 : decode cX11_madeBy 26 = .ok (.goto 4, 3) := by decide +kernel
theorem dX11_madeBy_29 : decode cX11_madeBy 29 = .ok (.iconst 0, 1) := by decide +kernel
theorem dX11_madeBy_30 : decode cX11_madeBy 30 = .ok (.ior, 1) := by decide +kernel
theorem dX11_madeBy_31 : decode cX11_madeBy 31 = .ok (.istore_n 2, 1) := by decide +kernel
theorem dX11_madeBy_32 : decode cX11_madeBy 32 = .ok (.iinc 3 1, 3) := by decide +kernel
theorem dX11_madeBy_35 : decode cX11_madeBy 35 = .ok (.goto (-31), 3) := by decide +kernel
theorem dX11_madeBy_38 : decode cX11_madeBy 38 = .ok (.iload_n 2, 1) := by decide +kernel
theorem dX11_madeBy_39 : decode cX11_madeBy 39 = .ok (.ireturn, 1) := by decide +kernel
def F_X11_madeBy (i : Nat) (X Y : Nat → Int → Int) (R : Nat → Int → Option Nat) (a : Int) : Prop := (∀ i j, rI (X i j)) → (∀ i j, rL (Y i j)) → (∃ q : Nat, (1 : Int) = q ∧ 1 ≤ q ∧ (1 : Int) ≤ X i 27 ∧ (0 : Int) = bS (fMd X i a) q) ∧ (∀ (z : Int) (k : Int), rI z → rI k → (∃ q : Nat, k = q ∧ 1 ≤ q ∧ k ≤ X i 27 ∧ z = bS (fMd X i a) q) → ((((X (i) 27) ≤ k) → (z = bS (fMd X i (a)) (X i 27).toNat)) ∧ ((¬ ((X (i) 27) ≤ k)) → ((oC X i ∧ 1 ≤ k ∧ k ≤ 14 ∧ 0 ≤ (2 : Int) ∧ (2 : Int) ≤ 12) ∧ (rI (mC X i (k) ((2 : Int))) → (((¬ (mC X i (k) ((2 : Int))) = a) → ((rI (k + 1)) ∧ (∃ q : Nat, k + 1 = q ∧ 1 ≤ q ∧ k + 1 ≤ X i 27 ∧ zOr (z) (0) = bS (fMd X i a) q) ∧ (((X i 27 - (k + 1)).toNat) < ((X i 27 - (k)).toNat)))) ∧ ((¬ (¬ (mC X i (k) ((2 : Int))) = a)) → ((rI (k + 1)) ∧ (∃ q : Nat, k + 1 = q ∧ 1 ≤ q ∧ k + 1 ≤ X i 27 ∧ zOr (z) (zShl (1) (k)) = bS (fMd X i a) q) ∧ (((X i 27 - (k + 1)).toNat) < ((X i 27 - (k)).toNat))))))))))
set_option maxHeartbeats 4000000 in
set_option maxRecDepth 100000 in
theorem w_X11_madeBy {l : Launch} {D : va_G} {cy : Nat → ClassId} {bs N : Nat} {sa : Nat → Nat} {kd len : Nat → Nat} {X Y : Nat → Int → Int} {R : Nat → Int → Option Nat} {i : Nat} (hM : zM N kd len R i) (a : Int) (ha : rI a) (hF : F_X11_madeBy i X Y R a) : Met l yX11_madeBy (.code yX11_madeBy cX11_madeBy 4 (some .int) :: zTB) (zRm 1 22) (zPc D cy bs sa N kd len X Y R [.ref (bs + (i)), .int (zI (a))]) (zQi D cy bs N kd len (fun r st => r = bS (fMd X i (a)) (X i 27).toNat ∧ st = (X, Y, R))) 0 0 (zA bs) := by
  refine zstart (by decide) (Nat.le_of_ble_eq_true rfl) ?_
  intro p e s m args below meth c ls C hE hH hr hlk hnm hl hargs
  have hF := hF hH.2.2.1 hH.2.2.2
  have hS : va_S (zA bs) s.heap s.heap [] := va_S.rf
  have hl : lv_has ls 4 [(0, .ref (bs + (i))), (1, .int (zI (a)))] := hl
  refine zd_iconst C dX11_madeBy_0 ?_
  refine lv_istore_n (lv' := [(2, .int (zI (0))), (0, .ref (bs + (i))), (1, .int (zI (a)))]) C.1 C.2.1 dX11_madeBy_1 rfl hl (by decide) rfl (fun ls hl => ?_)
  refine zd_iconst C dX11_madeBy_2 ?_
  refine lv_istore_n (lv' := [(3, .int (zI (1))), (2, .int (zI (0))), (0, .ref (bs + (i))), (1, .int (zI (a)))]) C.1 C.2.1 dX11_madeBy_3 rfl hl (by decide) rfl (fun ls hl => ?_)
  obtain ⟨hI1, hF⟩ := hF
  have L1 : ∀ (fu : Nat) (z : Int) (k : Int), rI z → rI k → (∃ q : Nat, k = q ∧ 1 ≤ q ∧ k ≤ X i 27 ∧ z = bS (fMd X i a) q) → ((X i 27 - (k)).toNat) < fu → ∀ (H : Heap) (locs : List Loc) (ls : Array Slot), zH D cy bs N kd len X Y R H → va_S (zA bs) s.heap H locs → lv_has ls 4 [(2, .int (zI (z))), (3, .int (zI (k))), (0, .ref (bs + (i))), (1, .int (zI (a)))] → W p l e (zRm 1 22) s m args below meth c H locs 0 0 (MQ below (zQi D cy bs N kd len (fun r st => r = bS (fMd X i (a)) (X i 27).toNat ∧ st = (X, Y, R))) args s 0 0 (zA bs)) (F0 m 4 ls []) := by
    intro fu
    induction fu with
    | zero => intro z k _ _ _ hmu; exact absurd hmu (Nat.not_lt_zero _)
    | succ fu ih1 =>
      intro z k hz hk hI hmu1 H locs ls hH hS hl
      have hF := hF z k hz hk  hI
      refine lv_iload_n C.1 C.2.1 dX11_madeBy_4 rfl (lv_at hl 1 rfl) ?_
      refine lv_aload_n C.1 C.2.1 dX11_madeBy_5 rfl (lv_at hl 2 rfl) ?_
      refine zg11_27 C hH (zM_n0 hM) (zM_k0 hM) q_1314 dX11_madeBy_6 ?_
      refine zd_icmp_ge C hk (hH.2.2.1 _ _) 38 dX11_madeBy_9 (by decide) (fun c2 => ?_) (fun c2 => ?_)
      · have hF := hF.1 c2
        refine lv_iload_n C.1 C.2.1 dX11_madeBy_38 rfl (lv_at hl 0 rfl) ?_
        exact zd_iret C hr hlk hH hS hz (⟨hF, rfl⟩) dX11_madeBy_39
      · have hF := hF.2 c2
        refine lv_iload_n C.1 C.2.1 dX11_madeBy_12 rfl (lv_at hl 0 rfl) ?_
        refine lv_aload_n C.1 C.2.1 dX11_madeBy_13 rfl (lv_at hl 2 rfl) ?_
        refine lv_iload_n C.1 C.2.1 dX11_madeBy_14 rfl (lv_at hl 1 rfl) ?_
        refine zd_iconst C dX11_madeBy_15 ?_
        obtain ⟨o3, hF⟩ := hF
        refine zgoi (zrunV (As := [.int (zI (k)), .int (zI (2))]) (rest := [.int (zI (z))]) C hE hH hS hl.1 (c_X11_ofBlock (l := l) hM (k) hk (2) (by decide) o3) k_RX11_258 ⟨Nat.le_of_ble_eq_true rfl, Nat.le_of_ble_eq_true rfl⟩ (zM_n0 hM) (zM_k0 hM) rfl rfl rfl (Nat.le_of_ble_eq_true rfl) dX11_madeBy_16 ⟨Nat.zero_le _, Nat.zero_le _⟩) hS (fun rq Xq Yq Rq H locs hrq hq hH hS => ?_)
        obtain ⟨h91, h92⟩ := hq
        have h93 : Xq = X := congrArg (fun z => z.1) h92
        have h94 : Yq = Y := congrArg (fun z => z.2.1) h92
        have h95 : Rq = R := congrArg (fun z => z.2.2) h92
        rw [h93, h94, h95] at hH
        subst h91
        have hr4 := hrq
        have hF := hF hr4
        refine lv_iload_n C.1 C.2.1 dX11_madeBy_19 rfl (lv_at hl 3 rfl) ?_
        refine zd_icmp_ne C hr4 ha 29 dX11_madeBy_20 (by decide) (fun c5 => ?_) (fun c5 => ?_)
        · have hF := hF.1 c5
          refine zd_iconst C dX11_madeBy_29 ?_
          refine zd_ior C dX11_madeBy_30 ?_
          refine lv_istore_n (lv' := [(2, .int (zI (zOr (z) (0)))), (3, .int (zI (k))), (0, .ref (bs + (i))), (1, .int (zI (a)))]) C.1 C.2.1 dX11_madeBy_31 rfl hl (by decide) rfl (fun ls hl => ?_)
          refine zd_iinc (k := 1) (lv' := [(3, .int (zI (k + 1))), (2, .int (zI (zOr (z) (0)))), (0, .ref (bs + (i))), (1, .int (zI (a)))]) C hl rfl dX11_madeBy_32 (by decide) rfl (fun ls hl => ?_)
          refine lv_goto (tgt := 4) C.1 C.2.1 dX11_madeBy_35 (by decide) ?_
          obtain ⟨o6, hF⟩ := hF
          exact ih1 (zOr (z) (0)) (k + 1) (zI_rg _) o6 hF.1 (Nat.lt_of_lt_of_le hF.2 (Nat.le_of_lt_succ hmu1)) _ _ _ hH hS (lv_sub hl [1, 0, 2, 3] rfl)
        · have hF := hF.2 c5
          refine zd_iconst C dX11_madeBy_23 ?_
          refine lv_iload_n C.1 C.2.1 dX11_madeBy_24 rfl (lv_at hl 1 rfl) ?_
          refine zd_ishl C dX11_madeBy_25 ?_
          refine lv_goto (tgt := 30) C.1 C.2.1 dX11_madeBy_26 (by decide) ?_
          refine zd_ior C dX11_madeBy_30 ?_
          refine lv_istore_n (lv' := [(2, .int (zI (zOr (z) (zShl (1) (k))))), (3, .int (zI (k))), (0, .ref (bs + (i))), (1, .int (zI (a)))]) C.1 C.2.1 dX11_madeBy_31 rfl hl (by decide) rfl (fun ls hl => ?_)
          refine zd_iinc (k := 1) (lv' := [(3, .int (zI (k + 1))), (2, .int (zI (zOr (z) (zShl (1) (k))))), (0, .ref (bs + (i))), (1, .int (zI (a)))]) C hl rfl dX11_madeBy_32 (by decide) rfl (fun ls hl => ?_)
          refine lv_goto (tgt := 4) C.1 C.2.1 dX11_madeBy_35 (by decide) ?_
          obtain ⟨o7, hF⟩ := hF
          exact ih1 (zOr (z) (zShl (1) (k))) (k + 1) (zI_rg _) o7 hF.1 (Nat.lt_of_lt_of_le hF.2 (Nat.le_of_lt_succ hmu1)) _ _ _ hH hS (lv_sub hl [1, 0, 2, 3] rfl)
  exact L1 (((X i 27 - ((1 : Int))).toNat) + 1) ((0 : Int)) ((1 : Int)) (by decide) (by decide) hI1 (Nat.lt_succ_self _) _ _ _ hH hS (lv_sub hl [1, 0, 2, 3] rfl)
theorem v_X11_madeBy {X Y : Nat → Int → Int} {R : Nat → Int → Option Nat} {i : Nat} (a : Int) (ha : rI a) (hp : oH X Y i) : F_X11_madeBy i X Y R a := by
  unfold F_X11_madeBy
  intro hX hY
  have h := hp
  have h27 := h.1.2.2.1
  have hbs := h.1.2.2.2
  have h35 := h.2.2.2.1
  have hl := h.2.2.1
  have sd : ∀ q : Nat, (q : Int) < X i 27 → mHas (X i 35) q = sdf X i q := fun q hq => by
    rw [h35]
    exact bS_has _ (by omega) (by omega)
  have ep : ∀ q : Nat, 1 ≤ q → (q : Int) < X i 27 → mPar X i q = rP X i q := fun q h1 h2 => rP_c hbs.1 h1 (by omega)
  have pb : ∀ q : Nat, 1 ≤ q → (q : Int) < X i 27 → rP X i q < q := fun q h1 h2 => rP_par hbs.1 q h1 (by omega)
  have hW := (oH_W h).2.2
  refine ⟨⟨1, rfl, by decide, by omega, rfl⟩, fun z k zr kr hI => ?_⟩
  obtain ⟨q, hq, q1, q2, hz⟩ := hI
  subst hq
  refine ⟨fun c => by rw [hz, show (X i 27).toNat = q by omega], fun c => ?_⟩
  have nx := bS_st hz
  have o1 : decide (1 ≤ q) = true := decide_eq_true q1
  refine ⟨⟨hbs.1.1, by omega, by omega, by decide, by decide⟩, fun _ => ⟨fun c1 => ⟨⟨by omega, by omega⟩, ⟨q + 1, by omega, by omega, by omega, nx.1 ?_⟩, by omega⟩, fun c1 => ⟨⟨by omega, by omega⟩, ⟨q + 1, by omega, by omega, by omega, nx.2 ?_⟩, by omega⟩⟩⟩
  · unfold fMd
    rw [decide_eq_false c1, Bool.and_false]
  · unfold fMd
    rw [o1, decide_eq_true (Classical.not_not.mp c1)]
    rfl
theorem c_X11_madeBy {l : Launch} {D : va_G} {cy : Nat → ClassId} {bs N : Nat} {sa : Nat → Nat} {kd len : Nat → Nat} {X Y : Nat → Int → Int} {R : Nat → Int → Option Nat} {i : Nat} (hM : zM N kd len R i) (a : Int) (ha : rI a) (hp : oH X Y i) : Met l yX11_madeBy (.code yX11_madeBy cX11_madeBy 4 (some .int) :: zTB) (zRm 1 22) (zPc D cy bs sa N kd len X Y R [.ref (bs + (i)), .int (zI (a))]) (zQi D cy bs N kd len (fun r st => r = bS (fMd X i (a)) (X i 27).toNat ∧ st = (X, Y, R))) 0 0 (zA bs) := w_X11_madeBy hM a ha (v_X11_madeBy a ha hp)
abbrev cX11_workIn : ByteArray := prog_13_method_97_code
def yX11_workIn : MethodName := ⟨RX11, "workIn", "(I)J"⟩
theorem dX11_workIn_0 : decode cX11_workIn 0 = .ok (.lconst 0, 1) := by decide +kernel
theorem dX11_workIn_1 : decode cX11_workIn 1 = .ok (.lstore_n 2, 1) := by decide +kernel
theorem dX11_workIn_2 : decode cX11_workIn 2 = .ok (.iconst 1, 1) := by decide +kernel
theorem dX11_workIn_3 : decode cX11_workIn 3 = .ok (.istore 4, 2) := by decide +kernel
theorem dX11_workIn_5 : decode cX11_workIn 5 = .ok (.iload 4, 2) := by decide +kernel
theorem dX11_workIn_7 : decode cX11_workIn 7 = .ok (.aload_n 0, 1) := by decide +kernel
theorem dX11_workIn_8 : decode cX11_workIn 8 = .ok (.getfield 255, 3) := by decide +kernel
theorem dX11_workIn_11 : decode cX11_workIn 11 = .ok (.if_icmp .ge 32, 3) := by decide +kernel
theorem dX11_workIn_14 : decode cX11_workIn 14 = .ok (.lload_n 2, 1) := by decide +kernel
theorem dX11_workIn_15 : decode cX11_workIn 15 = .ok (.iload_n 1, 1) := by decide +kernel
theorem dX11_workIn_16 : decode cX11_workIn 16 = .ok (.iload 4, 2) := by decide +kernel
theorem dX11_workIn_18 : decode cX11_workIn 18 = .ok (.invokestatic 92, 3) := by decide +kernel
theorem dX11_workIn_21 : decode cX11_workIn 21 = .ok (.ifCond .eq 13, 3) := by decide +kernel
theorem dX11_workIn_24 : decode cX11_workIn 24 = .ok (.aload_n 0, 1) := by decide +kernel
theorem dX11_workIn_25 : decode cX11_workIn 25 = .ok (.getfield 50, 3) := by decide +kernel
theorem dX11_workIn_28 : decode cX11_workIn 28 = .ok (.iload 4, 2) := by decide +kernel
theorem dX11_workIn_30 : decode cX11_workIn 30 = .ok (.laload, 1) := by decide +kernel
theorem dX11_workIn_31 : decode cX11_workIn 31 = .ok (.goto 4, 3) := by decide +kernel
theorem dX11_workIn_34 : decode cX11_workIn 34 = .ok (.lconst 0, 1) := by decide +kernel
theorem dX11_workIn_35 : decode cX11_workIn 35 = .ok (.ladd, 1) := by decide +kernel
theorem dX11_workIn_36 : decode cX11_workIn 36 = .ok (.lstore_n 2, 1) := by decide +kernel
theorem dX11_workIn_37 : decode cX11_workIn 37 = .ok (.iinc 4 1, 3) := by decide +kernel
theorem dX11_workIn_40 : decode cX11_workIn 40 = .ok (.goto (-35), 3) := by decide +kernel
theorem dX11_workIn_43 : decode cX11_workIn 43 = .ok (.lload_n 2, 1) := by decide +kernel
theorem dX11_workIn_44 : decode cX11_workIn 44 = .ok (.lreturn, 1) := by decide +kernel
def F_X11_workIn (i : Nat) (X Y : Nat → Int → Int) (R : Nat → Int → Option Nat) (a : Int) : Prop := (∀ i j, rI (X i j)) → (∀ i j, rL (Y i j)) → (∃ q : Nat, (1 : Int) = q ∧ 1 ≤ q ∧ (1 : Int) ≤ X i 27 ∧ (0 : Int) = sWi (rW X i) a q) ∧ (∀ (z : Int) (k : Int), rL z → rI k → (∃ q : Nat, k = q ∧ 1 ≤ q ∧ k ≤ X i 27 ∧ z = sWi (rW X i) a q) → ((((X (i) 27) ≤ k) → (z = sWi (rW X i) (a) (X i 27).toNat)) ∧ ((¬ ((X (i) 27) ≤ k)) → ((((mHas (a) (k)) = false) → ((rL ((z) + (0))) ∧ (rI (k + 1)) ∧ (∃ q : Nat, k + 1 = q ∧ 1 ≤ q ∧ k + 1 ≤ X i 27 ∧ (z) + (0) = sWi (rW X i) a q) ∧ (((X i 27 - (k + 1)).toNat) < ((X i 27 - (k)).toNat)))) ∧ (((mHas (a) (k)) = true) → ((0 ≤ k ∧ k < 15) ∧ ((rL ((z) + (Y (i + 14) (k)))) ∧ (rI (k + 1)) ∧ (∃ q : Nat, k + 1 = q ∧ 1 ≤ q ∧ k + 1 ≤ X i 27 ∧ (z) + (Y (i + 14) (k)) = sWi (rW X i) a q) ∧ (((X i 27 - (k + 1)).toNat) < ((X i 27 - (k)).toNat)))))))))
set_option maxHeartbeats 4000000 in
set_option maxRecDepth 100000 in
theorem w_X11_workIn {l : Launch} {D : va_G} {cy : Nat → ClassId} {bs N : Nat} {sa : Nat → Nat} {kd len : Nat → Nat} {X Y : Nat → Int → Int} {R : Nat → Int → Option Nat} {i : Nat} (hM : zM N kd len R i) (a : Int) (ha : rI a) (hF : F_X11_workIn i X Y R a) : Met l yX11_workIn (.code yX11_workIn cX11_workIn 5 (some .long) :: zTB) (zRm 1 21) (zPc D cy bs sa N kd len X Y R [.ref (bs + (i)), .int (zI (a))]) (zQl D cy bs N kd len (fun r st => r = sWi (rW X i) (a) (X i 27).toNat ∧ st = (X, Y, R))) 0 0 (zA bs) := by
  refine zstart (by decide) (Nat.le_of_ble_eq_true rfl) ?_
  intro p e s m args below meth c ls C hE hH hr hlk hnm hl hargs
  have hF := hF hH.2.2.1 hH.2.2.2
  have hS : va_S (zA bs) s.heap s.heap [] := va_S.rf
  have hl : lv_has ls 5 [(0, .ref (bs + (i))), (1, .int (zI (a)))] := hl
  refine lv_lconst (v := zL 0) C.1 C.2.1 dX11_workIn_0 rfl ?_
  refine lv_lstore_n (lv' := [(2, .long (zL (0))), (0, .ref (bs + (i))), (1, .int (zI (a)))]) C.1 C.2.1 dX11_workIn_1 rfl hl (by decide) rfl (fun ls hl => ?_)
  refine zd_iconst C dX11_workIn_2 ?_
  refine lv_istore (lv' := [(4, .int (zI (1))), (2, .long (zL (0))), (0, .ref (bs + (i))), (1, .int (zI (a)))]) C.1 C.2.1 dX11_workIn_3 hl (by decide) rfl (fun ls hl => ?_)
  obtain ⟨hI1, hF⟩ := hF
  have L1 : ∀ (fu : Nat) (z : Int) (k : Int), rL z → rI k → (∃ q : Nat, k = q ∧ 1 ≤ q ∧ k ≤ X i 27 ∧ z = sWi (rW X i) a q) → ((X i 27 - (k)).toNat) < fu → ∀ (H : Heap) (locs : List Loc) (ls : Array Slot), zH D cy bs N kd len X Y R H → va_S (zA bs) s.heap H locs → lv_has ls 5 [(2, .long (zL (z))), (4, .int (zI (k))), (0, .ref (bs + (i))), (1, .int (zI (a)))] → W p l e (zRm 1 21) s m args below meth c H locs 0 0 (MQ below (zQl D cy bs N kd len (fun r st => r = sWi (rW X i) (a) (X i 27).toNat ∧ st = (X, Y, R))) args s 0 0 (zA bs)) (F0 m 5 ls []) := by
    intro fu
    induction fu with
    | zero => intro z k _ _ _ hmu; exact absurd hmu (Nat.not_lt_zero _)
    | succ fu ih1 =>
      intro z k hz hk hI hmu1 H locs ls hH hS hl
      have hF := hF z k hz hk  hI
      refine lv_iload C.1 C.2.1 dX11_workIn_5 (lv_at hl 1 rfl) ?_
      refine lv_aload_n C.1 C.2.1 dX11_workIn_7 rfl (lv_at hl 2 rfl) ?_
      refine zg11_27 C hH (zM_n0 hM) (zM_k0 hM) q_1314 dX11_workIn_8 ?_
      refine zd_icmp_ge C hk (hH.2.2.1 _ _) 43 dX11_workIn_11 (by decide) (fun c2 => ?_) (fun c2 => ?_)
      · have hF := hF.1 c2
        refine lv_lload_n C.1 C.2.1 dX11_workIn_43 rfl (lv_at hl 0 rfl) ?_
        exact zd_lret C hr hlk hH hS hz (⟨hF, rfl⟩) dX11_workIn_44
      · have hF := hF.2 c2
        refine lv_lload_n C.1 C.2.1 dX11_workIn_14 rfl (lv_at hl 0 rfl) ?_
        refine lv_iload_n C.1 C.2.1 dX11_workIn_15 rfl (lv_at hl 3 rfl) ?_
        refine lv_iload C.1 C.2.1 dX11_workIn_16 (lv_at hl 1 rfl) ?_
        refine zgoi (zrunS (As := [.int (zI (a)), .int (zI (k))]) (rest := [.long (zL (z))]) C hE hH hS hl.1 (c_X11_has (l := l)  (a) ha (k) hk) k_RX11_92 ⟨Nat.le_of_ble_eq_true rfl, Nat.le_of_ble_eq_true rfl⟩ rfl (Nat.le_of_ble_eq_true rfl) dX11_workIn_18 ⟨Nat.zero_le _, Nat.zero_le _⟩) hS (fun rq Xq Yq Rq H locs hrq hq hH hS => ?_)
        obtain ⟨h91, h92⟩ := hq
        have h93 : Xq = X := congrArg (fun z => z.1) h92
        have h94 : Yq = Y := congrArg (fun z => z.2.1) h92
        have h95 : Rq = R := congrArg (fun z => z.2.2) h92
        rw [h93, h94, h95] at hH
        subst h91
        refine zd_ifB_eq C 34 dX11_workIn_21 (by decide) (fun c3 => ?_) (fun c3 => ?_)
        · have hF := hF.1 c3
          refine lv_lconst (v := zL 0) C.1 C.2.1 dX11_workIn_34 rfl ?_
          refine zd_ladd C dX11_workIn_35 ?_
          refine lv_lstore_n (lv' := [(2, .long (zL ((z) + (0)))), (4, .int (zI (k))), (0, .ref (bs + (i))), (1, .int (zI (a)))]) C.1 C.2.1 dX11_workIn_36 rfl hl (by decide) rfl (fun ls hl => ?_)
          refine zd_iinc (k := 1) (lv' := [(4, .int (zI (k + 1))), (2, .long (zL ((z) + (0)))), (0, .ref (bs + (i))), (1, .int (zI (a)))]) C hl rfl dX11_workIn_37 (by decide) rfl (fun ls hl => ?_)
          refine lv_goto (tgt := 5) C.1 C.2.1 dX11_workIn_40 (by decide) ?_
          obtain ⟨o4, hF⟩ := hF
          obtain ⟨o5, hF⟩ := hF
          exact ih1 ((z) + (0)) (k + 1) o4 o5 hF.1 (Nat.lt_of_lt_of_le hF.2 (Nat.le_of_lt_succ hmu1)) _ _ _ hH hS (lv_sub hl [1, 0, 2, 3] rfl)
        · have hF := hF.2 c3
          refine lv_aload_n C.1 C.2.1 dX11_workIn_24 rfl (lv_at hl 2 rfl) ?_
          refine zg11_32 C hH (zM_n0 hM) (zM_k0 hM) q_1319 (zM_r14 hM) dX11_workIn_25 ?_
          refine lv_iload C.1 C.2.1 dX11_workIn_28 (lv_at hl 1 rfl) ?_
          obtain ⟨o6, hF⟩ := hF
          refine zd_lald C hH (zM_n14 hM) (zM_k14 hM) o6.1 (by rw [zM_l14 hM]; exact o6.2) (by rw [zM_l14 hM]; decide) dX11_workIn_30 ?_
          refine lv_goto (tgt := 35) C.1 C.2.1 dX11_workIn_31 (by decide) ?_
          refine zd_ladd C dX11_workIn_35 ?_
          refine lv_lstore_n (lv' := [(2, .long (zL ((z) + (Y (i + 14) (k))))), (4, .int (zI (k))), (0, .ref (bs + (i))), (1, .int (zI (a)))]) C.1 C.2.1 dX11_workIn_36 rfl hl (by decide) rfl (fun ls hl => ?_)
          refine zd_iinc (k := 1) (lv' := [(4, .int (zI (k + 1))), (2, .long (zL ((z) + (Y (i + 14) (k))))), (0, .ref (bs + (i))), (1, .int (zI (a)))]) C hl rfl dX11_workIn_37 (by decide) rfl (fun ls hl => ?_)
          refine lv_goto (tgt := 5) C.1 C.2.1 dX11_workIn_40 (by decide) ?_
          obtain ⟨o7, hF⟩ := hF
          obtain ⟨o8, hF⟩ := hF
          exact ih1 ((z) + (Y (i + 14) (k))) (k + 1) o7 o8 hF.1 (Nat.lt_of_lt_of_le hF.2 (Nat.le_of_lt_succ hmu1)) _ _ _ hH hS (lv_sub hl [1, 0, 2, 3] rfl)
  exact L1 (((X i 27 - ((1 : Int))).toNat) + 1) ((0 : Int)) ((1 : Int)) (by decide) (by decide) hI1 (Nat.lt_succ_self _) _ _ _ hH hS (lv_sub hl [1, 0, 2, 3] rfl)
theorem v_X11_workIn {X Y : Nat → Int → Int} {R : Nat → Int → Option Nat} {i : Nat} (a : Int) (ha : rI a) (hp : oH X Y i) : F_X11_workIn i X Y R a := by
  unfold F_X11_workIn
  intro hX hY
  have h := hp
  have h27 := h.1.2.2.1
  have hbs := h.1.2.2.2
  have h35 := h.2.2.2.1
  have hl := h.2.2.1
  have sd : ∀ q : Nat, (q : Int) < X i 27 → mHas (X i 35) q = sdf X i q := fun q hq => by
    rw [h35]
    exact bS_has _ (by omega) (by omega)
  have ep : ∀ q : Nat, 1 ≤ q → (q : Int) < X i 27 → mPar X i q = rP X i q := fun q h1 h2 => rP_c hbs.1 h1 (by omega)
  have pb : ∀ q : Nat, 1 ≤ q → (q : Int) < X i 27 → rP X i q < q := fun q h1 h2 => rP_par hbs.1 q h1 (by omega)
  have hW := (oH_W h).2.2
  have wb : ∀ k : Nat, k < (X i 27).toNat → 1 ≤ rW X i k ∧ rW X i k ≤ 26575110144 := fun k hk => by
    rw [← (hl k (by omega)).2.1]
    exact hW k (by omega)
  refine ⟨⟨1, rfl, by decide, by omega, rfl⟩, fun z k zr kr hI => ?_⟩
  obtain ⟨q, hq, q1, q2, hz⟩ := hI
  subst hq
  refine ⟨fun c => by rw [hz, show (X i 27).toNat = q by omega], fun c => ?_⟩
  have o1 : decide (1 ≤ q) = true := decide_eq_true q1
  have b1 := sWi_b (s := a) (q := q) (fun k hk => wb k (by omega))
  have b2 := wb q (by omega)
  have e14 := (hl q (by omega)).2.1
  have st : sWi (rW X i) a (q + 1) = sWi (rW X i) a q + if decide (1 ≤ q) && mHas a q then rW X i q else 0 := rfl
  refine ⟨fun c1 => ⟨⟨by omega, by omega⟩, ⟨by omega, by omega⟩, ⟨q + 1, by omega, by omega, by omega, ?_⟩, by omega⟩, fun c1 => ⟨⟨by omega, by omega⟩, ⟨by omega, by omega⟩, ⟨by omega, by omega⟩, ⟨q + 1, by omega, by omega, by omega, ?_⟩, by omega⟩⟩
  · rw [st, c1, Bool.and_false, hz]
    rfl
  · rw [st, c1, o1, hz, e14]
    rfl
theorem c_X11_workIn {l : Launch} {D : va_G} {cy : Nat → ClassId} {bs N : Nat} {sa : Nat → Nat} {kd len : Nat → Nat} {X Y : Nat → Int → Int} {R : Nat → Int → Option Nat} {i : Nat} (hM : zM N kd len R i) (a : Int) (ha : rI a) (hp : oH X Y i) : Met l yX11_workIn (.code yX11_workIn cX11_workIn 5 (some .long) :: zTB) (zRm 1 21) (zPc D cy bs sa N kd len X Y R [.ref (bs + (i)), .int (zI (a))]) (zQl D cy bs N kd len (fun r st => r = sWi (rW X i) (a) (X i 27).toNat ∧ st = (X, Y, R))) 0 0 (zA bs) := w_X11_workIn hM a ha (v_X11_workIn a ha hp)
abbrev cX11_soundChildren : ByteArray := prog_13_method_118_code
def yX11_soundChildren : MethodName := ⟨RX11, "soundChildren", "(I)I"⟩
theorem dX11_soundChildren_0 : decode cX11_soundChildren 0 = .ok (.iconst 0, 1) := by decide +kernel
theorem dX11_soundChildren_1 : decode cX11_soundChildren 1 = .ok (.istore_n 2, 1) := by decide +kernel
theorem dX11_soundChildren_2 : decode cX11_soundChildren 2 = .ok (.iload_n 1, 1) := by decide +kernel
theorem dX11_soundChildren_3 : decode cX11_soundChildren 3 = .ok (.iconst 1, 1) := by decide +kernel
theorem dX11_soundChildren_4 : decode cX11_soundChildren 4 = .ok (.iadd, 1) := by decide +kernel
theorem dX11_soundChildren_5 : decode cX11_soundChildren 5 = .ok (.istore_n 3, 1) := by decide +kernel
theorem dX11_soundChildren_6 : decode cX11_soundChildren 6 = .ok (.iload_n 3, 1) := by decide +kernel
theorem dX11_soundChildren_7 : decode cX11_soundChildren 7 = .ok (.aload_n 0, 1) := by decide +kernel
theorem dX11_soundChildren_8 : decode cX11_soundChildren 8 = .ok (.getfield 255, 3) := by decide +kernel
theorem dX11_soundChildren_11 : decode cX11_soundChildren 11 = .ok (.if_icmp .ge 37, 3) := by decide +kernel
theorem dX11_soundChildren_14 : decode cX11_soundChildren 14 = .ok (.iload_n 2, 1) := by decide +kernel
theorem dX11_soundChildren_15 : decode cX11_soundChildren 15 = .ok (.aload_n 0, 1) := by decide +kernel
theorem dX11_soundChildren_16 : decode cX11_soundChildren 16 = .ok (.getfield 292, 3) := by decide +kernel
theorem dX11_soundChildren_19 : decode cX11_soundChildren 19 = .ok (.iload_n 3, 1) := by decide +kernel
theorem dX11_soundChildren_20 : decode cX11_soundChildren 20 = .ok (.invokestatic 92, 3) := by decide +kernel
theorem dX11_soundChildren_23 : decode cX11_soundChildren 23 = .ok (.ifCond .eq 16, 3) := by decide +kernel
theorem dX11_soundChildren_26 : decode cX11_soundChildren 26 = .ok (.aload_n 0, 1) := by decide +kernel
theorem dX11_soundChildren_27 : decode cX11_soundChildren 27 = .ok (.iload_n 3, 1) := by decide +kernel
theorem dX11_soundChildren_28 : decode cX11_soundChildren 28 = .ok (.invokevirtual 264, 3) := by decide +kernel
theorem dX11_soundChildren_31 : decode cX11_soundChildren 31 = .ok (.iload_n 1, 1) := by decide +kernel
theorem dX11_soundChildren_32 : decode cX11_soundChildren 32 = .ok (.if_icmp .ne 7, 3) := by decide +kernel
theorem dX11_soundChildren_35 : decode cX11_soundChildren 35 = .ok (.iconst 1, 1) := by decide +kernel
theorem dX11_soundChildren_36 : decode cX11_soundChildren 36 = .ok (.goto 4, 3) := by decide +kernel
theorem dX11_soundChildren_39 : decode cX11_soundChildren 39 = .ok (.iconst 0, 1) := by decide +kernel
theorem dX11_soundChildren_40 : decode cX11_soundChildren 40 = .ok (.iadd, 1) := by decide +kernel
theorem dX11_soundChildren_41 : decode cX11_soundChildren 41 = .ok (.istore_n 2, 1) := by decide +kernel
theorem dX11_soundChildren_42 : decode cX11_soundChildren 42 = .ok (.iinc 3 1, 3) := by decide +kernel
theorem dX11_soundChildren_45 : decode cX11_soundChildren 45 = .ok (.goto (-39), 3) := by decide +kernel
theorem dX11_soundChildren_48 : decode cX11_soundChildren 48 = .ok (.iload_n 2, 1) := by decide +kernel
theorem dX11_soundChildren_49 : decode cX11_soundChildren 49 = .ok (.ireturn, 1) := by decide +kernel
def F_X11_soundChildren (i : Nat) (X Y : Nat → Int → Int) (R : Nat → Int → Option Nat) (a : Int) : Prop := (∀ i j, rI (X i j)) → (∀ i j, rL (Y i j)) → (rI (a + 1)) ∧ (∃ q : Nat, a + 1 = q ∧ a < q ∧ a + 1 ≤ X i 27 ∧ (0 : Int) = cN (fSc (rP X i) (sdf X i) a.toNat) q) ∧ (∀ (z : Int) (k : Int), rI z → rI k → (∃ q : Nat, k = q ∧ a < q ∧ k ≤ X i 27 ∧ z = cN (fSc (rP X i) (sdf X i) a.toNat) q) → ((((X (i) 27) ≤ k) → (z = cN (fSc (rP X i) (sdf X i) (a).toNat) (X i 27).toNat)) ∧ ((¬ ((X (i) 27) ≤ k)) → ((((mHas (X (i) 35) (k)) = false) → ((rI (z + 0)) ∧ (rI (k + 1)) ∧ (∃ q : Nat, k + 1 = q ∧ a < q ∧ k + 1 ≤ X i 27 ∧ z + 0 = cN (fSc (rP X i) (sdf X i) a.toNat) q) ∧ (((X i 27 - (k + 1)).toNat) < ((X i 27 - (k)).toNat)))) ∧ (((mHas (X (i) 35) (k)) = true) → ((oC X i ∧ 0 ≤ k ∧ k ≤ 14) ∧ (rI (mPar X i (k)) → (((¬ (mPar X i (k)) = a) → ((rI (z + 0)) ∧ (rI (k + 1)) ∧ (∃ q : Nat, k + 1 = q ∧ a < q ∧ k + 1 ≤ X i 27 ∧ z + 0 = cN (fSc (rP X i) (sdf X i) a.toNat) q) ∧ (((X i 27 - (k + 1)).toNat) < ((X i 27 - (k)).toNat)))) ∧ ((¬ (¬ (mPar X i (k)) = a)) → ((rI (z + 1)) ∧ (rI (k + 1)) ∧ (∃ q : Nat, k + 1 = q ∧ a < q ∧ k + 1 ≤ X i 27 ∧ z + 1 = cN (fSc (rP X i) (sdf X i) a.toNat) q) ∧ (((X i 27 - (k + 1)).toNat) < ((X i 27 - (k)).toNat))))))))))))
set_option maxHeartbeats 4000000 in
set_option maxRecDepth 100000 in
theorem w_X11_soundChildren {l : Launch} {D : va_G} {cy : Nat → ClassId} {bs N : Nat} {sa : Nat → Nat} {kd len : Nat → Nat} {X Y : Nat → Int → Int} {R : Nat → Int → Option Nat} {i : Nat} (hM : zM N kd len R i) (a : Int) (ha : rI a) (hF : F_X11_soundChildren i X Y R a) : Met l yX11_soundChildren (.code yX11_soundChildren cX11_soundChildren 4 (some .int) :: zTB) (zRm 2 43) (zPc D cy bs sa N kd len X Y R [.ref (bs + (i)), .int (zI (a))]) (zQi D cy bs N kd len (fun r st => r = cN (fSc (rP X i) (sdf X i) (a).toNat) (X i 27).toNat ∧ st = (X, Y, R))) 0 0 (zA bs) := by
  refine zstart (by decide) (Nat.le_of_ble_eq_true rfl) ?_
  intro p e s m args below meth c ls C hE hH hr hlk hnm hl hargs
  have hF := hF hH.2.2.1 hH.2.2.2
  have hS : va_S (zA bs) s.heap s.heap [] := va_S.rf
  have hl : lv_has ls 4 [(0, .ref (bs + (i))), (1, .int (zI (a)))] := hl
  refine zd_iconst C dX11_soundChildren_0 ?_
  refine lv_istore_n (lv' := [(2, .int (zI (0))), (0, .ref (bs + (i))), (1, .int (zI (a)))]) C.1 C.2.1 dX11_soundChildren_1 rfl hl (by decide) rfl (fun ls hl => ?_)
  refine lv_iload_n C.1 C.2.1 dX11_soundChildren_2 rfl (lv_at hl 2 rfl) ?_
  refine zd_iconst C dX11_soundChildren_3 ?_
  refine zd_iadd C dX11_soundChildren_4 ?_
  refine lv_istore_n (lv' := [(3, .int (zI (a + 1))), (2, .int (zI (0))), (0, .ref (bs + (i))), (1, .int (zI (a)))]) C.1 C.2.1 dX11_soundChildren_5 rfl hl (by decide) rfl (fun ls hl => ?_)
  obtain ⟨o13, hF⟩ := hF
  obtain ⟨hI1, hF⟩ := hF
  have L1 : ∀ (fu : Nat) (z : Int) (k : Int), rI z → rI k → (∃ q : Nat, k = q ∧ a < q ∧ k ≤ X i 27 ∧ z = cN (fSc (rP X i) (sdf X i) a.toNat) q) → ((X i 27 - (k)).toNat) < fu → ∀ (H : Heap) (locs : List Loc) (ls : Array Slot), zH D cy bs N kd len X Y R H → va_S (zA bs) s.heap H locs → lv_has ls 4 [(2, .int (zI (z))), (3, .int (zI (k))), (0, .ref (bs + (i))), (1, .int (zI (a)))] → W p l e (zRm 2 43) s m args below meth c H locs 0 0 (MQ below (zQi D cy bs N kd len (fun r st => r = cN (fSc (rP X i) (sdf X i) (a).toNat) (X i 27).toNat ∧ st = (X, Y, R))) args s 0 0 (zA bs)) (F0 m 6 ls []) := by
    intro fu
    induction fu with
    | zero => intro z k _ _ _ hmu; exact absurd hmu (Nat.not_lt_zero _)
    | succ fu ih1 =>
      intro z k hz hk hI hmu1 H locs ls hH hS hl
      have hF := hF z k hz hk  hI
      refine lv_iload_n C.1 C.2.1 dX11_soundChildren_6 rfl (lv_at hl 1 rfl) ?_
      refine lv_aload_n C.1 C.2.1 dX11_soundChildren_7 rfl (lv_at hl 2 rfl) ?_
      refine zg11_27 C hH (zM_n0 hM) (zM_k0 hM) q_1314 dX11_soundChildren_8 ?_
      refine zd_icmp_ge C hk (hH.2.2.1 _ _) 48 dX11_soundChildren_11 (by decide) (fun c2 => ?_) (fun c2 => ?_)
      · have hF := hF.1 c2
        refine lv_iload_n C.1 C.2.1 dX11_soundChildren_48 rfl (lv_at hl 0 rfl) ?_
        exact zd_iret C hr hlk hH hS hz (⟨hF, rfl⟩) dX11_soundChildren_49
      · have hF := hF.2 c2
        refine lv_iload_n C.1 C.2.1 dX11_soundChildren_14 rfl (lv_at hl 0 rfl) ?_
        refine lv_aload_n C.1 C.2.1 dX11_soundChildren_15 rfl (lv_at hl 2 rfl) ?_
        refine zg11_35 C hH (zM_n0 hM) (zM_k0 hM) q_1322 dX11_soundChildren_16 ?_
        refine lv_iload_n C.1 C.2.1 dX11_soundChildren_19 rfl (lv_at hl 1 rfl) ?_
        refine zgoi (zrunS (As := [.int (zI (X (i) 35)), .int (zI (k))]) (rest := [.int (zI (z))]) C hE hH hS hl.1 (c_X11_has (l := l)  (X (i) 35) (hH.2.2.1 _ _) (k) hk) k_RX11_92 ⟨Nat.le_of_ble_eq_true rfl, Nat.le_of_ble_eq_true rfl⟩ rfl (Nat.le_of_ble_eq_true rfl) dX11_soundChildren_20 ⟨Nat.zero_le _, Nat.zero_le _⟩) hS (fun rq Xq Yq Rq H locs hrq hq hH hS => ?_)
        obtain ⟨h91, h92⟩ := hq
        have h93 : Xq = X := congrArg (fun z => z.1) h92
        have h94 : Yq = Y := congrArg (fun z => z.2.1) h92
        have h95 : Rq = R := congrArg (fun z => z.2.2) h92
        rw [h93, h94, h95] at hH
        subst h91
        refine zd_ifB_eq C 39 dX11_soundChildren_23 (by decide) (fun c3 => ?_) (fun c3 => ?_)
        · have hF := hF.1 c3
          refine zd_iconst C dX11_soundChildren_39 ?_
          refine zd_iadd C dX11_soundChildren_40 ?_
          refine lv_istore_n (lv' := [(2, .int (zI (z + 0))), (3, .int (zI (k))), (0, .ref (bs + (i))), (1, .int (zI (a)))]) C.1 C.2.1 dX11_soundChildren_41 rfl hl (by decide) rfl (fun ls hl => ?_)
          refine zd_iinc (k := 1) (lv' := [(3, .int (zI (k + 1))), (2, .int (zI (z + 0))), (0, .ref (bs + (i))), (1, .int (zI (a)))]) C hl rfl dX11_soundChildren_42 (by decide) rfl (fun ls hl => ?_)
          refine lv_goto (tgt := 6) C.1 C.2.1 dX11_soundChildren_45 (by decide) ?_
          obtain ⟨o4, hF⟩ := hF
          obtain ⟨o5, hF⟩ := hF
          exact ih1 (z + 0) (k + 1) o4 o5 hF.1 (Nat.lt_of_lt_of_le hF.2 (Nat.le_of_lt_succ hmu1)) _ _ _ hH hS (lv_sub hl [1, 0, 2, 3] rfl)
        · have hF := hF.2 c3
          refine lv_aload_n C.1 C.2.1 dX11_soundChildren_26 rfl (lv_at hl 2 rfl) ?_
          refine lv_iload_n C.1 C.2.1 dX11_soundChildren_27 rfl (lv_at hl 1 rfl) ?_
          obtain ⟨o6, hF⟩ := hF
          refine zgoi (zrunV (As := [.int (zI (k))]) (rest := [.int (zI (z))]) C hE hH hS hl.1 (c_X11_parentOf (l := l) hM (k) hk o6) k_RX11_264 ⟨Nat.le_of_ble_eq_true rfl, Nat.le_of_ble_eq_true rfl⟩ (zM_n0 hM) (zM_k0 hM) rfl rfl rfl (Nat.le_of_ble_eq_true rfl) dX11_soundChildren_28 ⟨Nat.zero_le _, Nat.zero_le _⟩) hS (fun rq Xq Yq Rq H locs hrq hq hH hS => ?_)
          obtain ⟨h91, h92⟩ := hq
          have h93 : Xq = X := congrArg (fun z => z.1) h92
          have h94 : Yq = Y := congrArg (fun z => z.2.1) h92
          have h95 : Rq = R := congrArg (fun z => z.2.2) h92
          rw [h93, h94, h95] at hH
          subst h91
          have hr7 := hrq
          have hF := hF hr7
          refine lv_iload_n C.1 C.2.1 dX11_soundChildren_31 rfl (lv_at hl 3 rfl) ?_
          refine zd_icmp_ne C hr7 ha 39 dX11_soundChildren_32 (by decide) (fun c8 => ?_) (fun c8 => ?_)
          · have hF := hF.1 c8
            refine zd_iconst C dX11_soundChildren_39 ?_
            refine zd_iadd C dX11_soundChildren_40 ?_
            refine lv_istore_n (lv' := [(2, .int (zI (z + 0))), (3, .int (zI (k))), (0, .ref (bs + (i))), (1, .int (zI (a)))]) C.1 C.2.1 dX11_soundChildren_41 rfl hl (by decide) rfl (fun ls hl => ?_)
            refine zd_iinc (k := 1) (lv' := [(3, .int (zI (k + 1))), (2, .int (zI (z + 0))), (0, .ref (bs + (i))), (1, .int (zI (a)))]) C hl rfl dX11_soundChildren_42 (by decide) rfl (fun ls hl => ?_)
            refine lv_goto (tgt := 6) C.1 C.2.1 dX11_soundChildren_45 (by decide) ?_
            obtain ⟨o9, hF⟩ := hF
            obtain ⟨o10, hF⟩ := hF
            exact ih1 (z + 0) (k + 1) o9 o10 hF.1 (Nat.lt_of_lt_of_le hF.2 (Nat.le_of_lt_succ hmu1)) _ _ _ hH hS (lv_sub hl [1, 0, 2, 3] rfl)
          · have hF := hF.2 c8
            refine zd_iconst C dX11_soundChildren_35 ?_
            refine lv_goto (tgt := 40) C.1 C.2.1 dX11_soundChildren_36 (by decide) ?_
            refine zd_iadd C dX11_soundChildren_40 ?_
            refine lv_istore_n (lv' := [(2, .int (zI (z + 1))), (3, .int (zI (k))), (0, .ref (bs + (i))), (1, .int (zI (a)))]) C.1 C.2.1 dX11_soundChildren_41 rfl hl (by decide) rfl (fun ls hl => ?_)
            refine zd_iinc (k := 1) (lv' := [(3, .int (zI (k + 1))), (2, .int (zI (z + 1))), (0, .ref (bs + (i))), (1, .int (zI (a)))]) C hl rfl dX11_soundChildren_42 (by decide) rfl (fun ls hl => ?_)
            refine lv_goto (tgt := 6) C.1 C.2.1 dX11_soundChildren_45 (by decide) ?_
            obtain ⟨o11, hF⟩ := hF
            obtain ⟨o12, hF⟩ := hF
            exact ih1 (z + 1) (k + 1) o11 o12 hF.1 (Nat.lt_of_lt_of_le hF.2 (Nat.le_of_lt_succ hmu1)) _ _ _ hH hS (lv_sub hl [1, 0, 2, 3] rfl)
  exact L1 (((X i 27 - (a + 1)).toNat) + 1) ((0 : Int)) (a + 1) (by decide) o13 hI1 (Nat.lt_succ_self _) _ _ _ hH hS (lv_sub hl [1, 0, 2, 3] rfl)
theorem v_X11_soundChildren {X Y : Nat → Int → Int} {R : Nat → Int → Option Nat} {i : Nat} (a : Int) (ha : rI a) (hp : oH X Y i ∧ 0 ≤ a ∧ a < X i 27) : F_X11_soundChildren i X Y R a := by
  unfold F_X11_soundChildren
  intro hX hY
  have h := hp.1
  have ha := hp.2
  have h27 := h.1.2.2.1
  have hbs := h.1.2.2.2
  have h35 := h.2.2.2.1
  have hl := h.2.2.1
  have sd : ∀ q : Nat, (q : Int) < X i 27 → mHas (X i 35) q = sdf X i q := fun q hq => by
    rw [h35]
    exact bS_has _ (by omega) (by omega)
  have ep : ∀ q : Nat, 1 ≤ q → (q : Int) < X i 27 → mPar X i q = rP X i q := fun q h1 h2 => rP_c hbs.1 h1 (by omega)
  have pb : ∀ q : Nat, 1 ≤ q → (q : Int) < X i 27 → rP X i q < q := fun q h1 h2 => rP_par hbs.1 q h1 (by omega)
  have hW := (oH_W h).2.2
  refine ⟨⟨by omega, by omega⟩, ⟨(a + 1).toNat, by omega, by omega, by omega, (cN_0 (fun e he => ?_)).symm⟩, fun z k zr kr hI => ?_⟩
  · unfold fSc
    rw [decide_eq_false (by omega), Bool.false_and]
  obtain ⟨q, hq, q1, q2, hz⟩ := hI
  subst hq
  refine ⟨fun c => by rw [hz, show (X i 27).toNat = q by omega], fun c => ?_⟩
  have nx := cN_st hz
  have bb := cN_b (fSc (rP X i) (sdf X i) a.toNat) q
  have o1 : decide (a.toNat < q) = true := decide_eq_true (by omega)
  rw [sd q (by omega), ep q (by omega) (by omega)]
  refine ⟨fun c1 => ⟨⟨by omega, by omega⟩, ⟨by omega, by omega⟩, ⟨q + 1, by omega, by omega, by omega, nx.1 ?_⟩, by omega⟩, fun c1 => ⟨⟨hbs.1.1, by omega, by omega⟩, fun _ => ⟨fun c2 => ⟨⟨by omega, by omega⟩, ⟨by omega, by omega⟩, ⟨q + 1, by omega, by omega, by omega, nx.1 ?_⟩, by omega⟩, fun c2 => ⟨⟨by omega, by omega⟩, ⟨by omega, by omega⟩, ⟨q + 1, by omega, by omega, by omega, nx.2 ?_⟩, by omega⟩⟩⟩⟩
  · unfold fSc
    rw [c1, Bool.false_and, Bool.and_false]
  · unfold fSc
    rw [decide_eq_false (show ¬ rP X i q = a.toNat by omega), Bool.and_false, Bool.and_false]
  · unfold fSc
    rw [o1, c1, decide_eq_true (show rP X i q = a.toNat by omega)]
    rfl
theorem c_X11_soundChildren {l : Launch} {D : va_G} {cy : Nat → ClassId} {bs N : Nat} {sa : Nat → Nat} {kd len : Nat → Nat} {X Y : Nat → Int → Int} {R : Nat → Int → Option Nat} {i : Nat} (hM : zM N kd len R i) (a : Int) (ha : rI a) (hp : oH X Y i ∧ 0 ≤ a ∧ a < X i 27) : Met l yX11_soundChildren (.code yX11_soundChildren cX11_soundChildren 4 (some .int) :: zTB) (zRm 2 43) (zPc D cy bs sa N kd len X Y R [.ref (bs + (i)), .int (zI (a))]) (zQi D cy bs N kd len (fun r st => r = cN (fSc (rP X i) (sdf X i) (a).toNat) (X i 27).toNat ∧ st = (X, Y, R))) 0 0 (zA bs) := w_X11_soundChildren hM a ha (v_X11_soundChildren a ha hp)
abbrev cX11_leavesOf : ByteArray := prog_13_method_119_code
def yX11_leavesOf : MethodName := ⟨RX11, "leavesOf", "()I"⟩
theorem dX11_leavesOf_0 : decode cX11_leavesOf 0 = .ok (.iconst 0, 1) := by decide +kernel
theorem dX11_leavesOf_1 : decode cX11_leavesOf 1 = .ok (.istore_n 1, 1) := by decide +kernel
theorem dX11_leavesOf_2 : decode cX11_leavesOf 2 = .ok (.iconst 0, 1) := by decide +kernel
theorem dX11_leavesOf_3 : decode cX11_leavesOf 3 = .ok (.istore_n 2, 1) := by decide +kernel
theorem dX11_leavesOf_4 : decode cX11_leavesOf 4 = .ok (.iload_n 2, 1) := by decide +kernel
theorem dX11_leavesOf_5 : decode cX11_leavesOf 5 = .ok (.aload_n 0, 1) := by decide +kernel
theorem dX11_leavesOf_6 : decode cX11_leavesOf 6 = .ok (.getfield 255, 3) := by decide +kernel
theorem dX11_leavesOf_9 : decode cX11_leavesOf 9 = .ok (.if_icmp .ge 38, 3) := by decide +kernel
theorem dX11_leavesOf_12 : decode cX11_leavesOf 12 = .ok (.iload_n 1, 1) := by decide +kernel
theorem dX11_leavesOf_13 : decode cX11_leavesOf 13 = .ok (.aload_n 0, 1) := by decide +kernel
theorem dX11_leavesOf_14 : decode cX11_leavesOf 14 = .ok (.getfield 292, 3) := by decide +kernel
theorem dX11_leavesOf_17 : decode cX11_leavesOf 17 = .ok (.iload_n 2, 1) := by decide +kernel
theorem dX11_leavesOf_18 : decode cX11_leavesOf 18 = .ok (.invokestatic 92, 3) := by decide +kernel
theorem dX11_leavesOf_21 : decode cX11_leavesOf 21 = .ok (.ifCond .eq 17, 3) := by decide +kernel
theorem dX11_leavesOf_24 : decode cX11_leavesOf 24 = .ok (.aload_n 0, 1) := by decide +kernel
theorem dX11_leavesOf_25 : decode cX11_leavesOf 25 = .ok (.iload_n 2, 1) := by decide +kernel
theorem dX11_leavesOf_26 : decode cX11_leavesOf 26 = .ok (.invokevirtual 547, 3) := by decide +kernel
theorem dX11_leavesOf_29 : decode cX11_leavesOf 29 = .ok (.ifCond .ne 9, 3) := by decide +kernel
theorem dX11_leavesOf_32 : decode cX11_leavesOf 32 = .ok (.iconst 1, 1) := by decide +kernel
theorem dX11_leavesOf_33 : decode cX11_leavesOf 33 = .ok (.iload_n 2, 1) := by decide +kernel
theorem dX11_leavesOf_34 : decode cX11_leavesOf 34 = .ok (.ishl, 1) := by decide +kernel
theorem dX11_leavesOf_35 : decode cX11_leavesOf 35 = .ok (.goto 4, 3) := by decide +kernel
theorem dX11_leavesOf_38 : decode cX11_leavesOf 38 = .ok (.iconst 0, 1) := by decide +kernel
theorem dX11_leavesOf_39 : decode cX11_leavesOf 39 = .ok (.ior, 1) := by decide +kernel
theorem dX11_leavesOf_40 : decode cX11_leavesOf 40 = .ok (.istore_n 1, 1) := by decide +kernel
theorem dX11_leavesOf_41 : decode cX11_leavesOf 41 = .ok (.iinc 2 1, 3) := by decide +kernel
theorem dX11_leavesOf_44 : decode cX11_leavesOf 44 = .ok (.goto (-40), 3) := by decide +kernel
theorem dX11_leavesOf_47 : decode cX11_leavesOf 47 = .ok (.iload_n 1, 1) := by decide +kernel
theorem dX11_leavesOf_48 : decode cX11_leavesOf 48 = .ok (.ireturn, 1) := by decide +kernel
theorem q_1956 : Cond.methodLink RX11 547 yX11_soundChildren ∈ zTB := zmem 1956 (by decide +kernel) rfl
theorem q_1958 : Cond.instanceMethod yX11_soundChildren ∈ zTB := zmem 1958 (by decide +kernel) rfl
theorem q_116 : Cond.selects RX11 yX11_soundChildren yX11_soundChildren ∈ zTB := zmem 116 (by decide +kernel) rfl
theorem q_1959 : Cond.code yX11_soundChildren cX11_soundChildren 4 (some .int) ∈ zTB := zmem 1959 (by decide +kernel) rfl
theorem k_RX11_547 : zLv RX11 547 RX11 yX11_soundChildren cX11_soundChildren 4 (some .int) 1 := ⟨⟨q_1956, q_1958, q_116, q_140, q_1959⟩, rfl, ⟨by decide, by decide⟩, by decide +kernel⟩
def F_X11_leavesOf (i : Nat) (X Y : Nat → Int → Int) (R : Nat → Int → Option Nat)  : Prop := (∀ i j, rI (X i j)) → (∀ i j, rL (Y i j)) → (∃ q : Nat, (0 : Int) = q ∧ (0 : Int) ≤ X i 27 ∧ (0 : Int) = bS (fLv (rP X i) (sdf X i) (X i 27).toNat) q) ∧ (∀ (z : Int) (k : Int), rI z → rI k → (∃ q : Nat, k = q ∧ k ≤ X i 27 ∧ z = bS (fLv (rP X i) (sdf X i) (X i 27).toNat) q) → ((((X (i) 27) ≤ k) → (z = bS (fLv (rP X i) (sdf X i) (X i 27).toNat) (X i 27).toNat)) ∧ ((¬ ((X (i) 27) ≤ k)) → ((((mHas (X (i) 35) (k)) = false) → ((rI (k + 1)) ∧ (∃ q : Nat, k + 1 = q ∧ k + 1 ≤ X i 27 ∧ zOr (z) (0) = bS (fLv (rP X i) (sdf X i) (X i 27).toNat) q) ∧ (((X i 27 - (k + 1)).toNat) < ((X i 27 - (k)).toNat)))) ∧ (((mHas (X (i) 35) (k)) = true) → ((oH X Y i ∧ 0 ≤ k ∧ k < X i 27) ∧ (rI (cN (fSc (rP X i) (sdf X i) (k).toNat) (X i 27).toNat) → (((¬ (cN (fSc (rP X i) (sdf X i) (k).toNat) (X i 27).toNat) = 0) → ((rI (k + 1)) ∧ (∃ q : Nat, k + 1 = q ∧ k + 1 ≤ X i 27 ∧ zOr (z) (0) = bS (fLv (rP X i) (sdf X i) (X i 27).toNat) q) ∧ (((X i 27 - (k + 1)).toNat) < ((X i 27 - (k)).toNat)))) ∧ ((¬ (¬ (cN (fSc (rP X i) (sdf X i) (k).toNat) (X i 27).toNat) = 0)) → ((rI (k + 1)) ∧ (∃ q : Nat, k + 1 = q ∧ k + 1 ≤ X i 27 ∧ zOr (z) (zShl (1) (k)) = bS (fLv (rP X i) (sdf X i) (X i 27).toNat) q) ∧ (((X i 27 - (k + 1)).toNat) < ((X i 27 - (k)).toNat))))))))))))
set_option maxHeartbeats 4000000 in
set_option maxRecDepth 100000 in
theorem w_X11_leavesOf {l : Launch} {D : va_G} {cy : Nat → ClassId} {bs N : Nat} {sa : Nat → Nat} {kd len : Nat → Nat} {X Y : Nat → Int → Int} {R : Nat → Int → Option Nat} {i : Nat} (hM : zM N kd len R i)  (hF : F_X11_leavesOf i X Y R ) : Met l yX11_leavesOf (.code yX11_leavesOf cX11_leavesOf 3 (some .int) :: zTB) (zRm 3 66) (zPc D cy bs sa N kd len X Y R [.ref (bs + (i))]) (zQi D cy bs N kd len (fun r st => r = bS (fLv (rP X i) (sdf X i) (X i 27).toNat) (X i 27).toNat ∧ st = (X, Y, R))) 0 0 (zA bs) := by
  refine zstart (by decide) (Nat.le_of_ble_eq_true rfl) ?_
  intro p e s m args below meth c ls C hE hH hr hlk hnm hl hargs
  have hF := hF hH.2.2.1 hH.2.2.2
  have hS : va_S (zA bs) s.heap s.heap [] := va_S.rf
  have hl : lv_has ls 3 [(0, .ref (bs + (i)))] := hl
  refine zd_iconst C dX11_leavesOf_0 ?_
  refine lv_istore_n (lv' := [(1, .int (zI (0))), (0, .ref (bs + (i)))]) C.1 C.2.1 dX11_leavesOf_1 rfl hl (by decide) rfl (fun ls hl => ?_)
  refine zd_iconst C dX11_leavesOf_2 ?_
  refine lv_istore_n (lv' := [(2, .int (zI (0))), (1, .int (zI (0))), (0, .ref (bs + (i)))]) C.1 C.2.1 dX11_leavesOf_3 rfl hl (by decide) rfl (fun ls hl => ?_)
  obtain ⟨hI1, hF⟩ := hF
  have L1 : ∀ (fu : Nat) (z : Int) (k : Int), rI z → rI k → (∃ q : Nat, k = q ∧ k ≤ X i 27 ∧ z = bS (fLv (rP X i) (sdf X i) (X i 27).toNat) q) → ((X i 27 - (k)).toNat) < fu → ∀ (H : Heap) (locs : List Loc) (ls : Array Slot), zH D cy bs N kd len X Y R H → va_S (zA bs) s.heap H locs → lv_has ls 3 [(1, .int (zI (z))), (2, .int (zI (k))), (0, .ref (bs + (i)))] → W p l e (zRm 3 66) s m args below meth c H locs 0 0 (MQ below (zQi D cy bs N kd len (fun r st => r = bS (fLv (rP X i) (sdf X i) (X i 27).toNat) (X i 27).toNat ∧ st = (X, Y, R))) args s 0 0 (zA bs)) (F0 m 4 ls []) := by
    intro fu
    induction fu with
    | zero => intro z k _ _ _ hmu; exact absurd hmu (Nat.not_lt_zero _)
    | succ fu ih1 =>
      intro z k hz hk hI hmu1 H locs ls hH hS hl
      have hF := hF z k hz hk  hI
      refine lv_iload_n C.1 C.2.1 dX11_leavesOf_4 rfl (lv_at hl 1 rfl) ?_
      refine lv_aload_n C.1 C.2.1 dX11_leavesOf_5 rfl (lv_at hl 2 rfl) ?_
      refine zg11_27 C hH (zM_n0 hM) (zM_k0 hM) q_1314 dX11_leavesOf_6 ?_
      refine zd_icmp_ge C hk (hH.2.2.1 _ _) 47 dX11_leavesOf_9 (by decide) (fun c2 => ?_) (fun c2 => ?_)
      · have hF := hF.1 c2
        refine lv_iload_n C.1 C.2.1 dX11_leavesOf_47 rfl (lv_at hl 0 rfl) ?_
        exact zd_iret C hr hlk hH hS hz (⟨hF, rfl⟩) dX11_leavesOf_48
      · have hF := hF.2 c2
        refine lv_iload_n C.1 C.2.1 dX11_leavesOf_12 rfl (lv_at hl 0 rfl) ?_
        refine lv_aload_n C.1 C.2.1 dX11_leavesOf_13 rfl (lv_at hl 2 rfl) ?_
        refine zg11_35 C hH (zM_n0 hM) (zM_k0 hM) q_1322 dX11_leavesOf_14 ?_
        refine lv_iload_n C.1 C.2.1 dX11_leavesOf_17 rfl (lv_at hl 1 rfl) ?_
        refine zgoi (zrunS (As := [.int (zI (X (i) 35)), .int (zI (k))]) (rest := [.int (zI (z))]) C hE hH hS hl.1 (c_X11_has (l := l)  (X (i) 35) (hH.2.2.1 _ _) (k) hk) k_RX11_92 ⟨Nat.le_of_ble_eq_true rfl, Nat.le_of_ble_eq_true rfl⟩ rfl (Nat.le_of_ble_eq_true rfl) dX11_leavesOf_18 ⟨Nat.zero_le _, Nat.zero_le _⟩) hS (fun rq Xq Yq Rq H locs hrq hq hH hS => ?_)
        obtain ⟨h91, h92⟩ := hq
        have h93 : Xq = X := congrArg (fun z => z.1) h92
        have h94 : Yq = Y := congrArg (fun z => z.2.1) h92
        have h95 : Rq = R := congrArg (fun z => z.2.2) h92
        rw [h93, h94, h95] at hH
        subst h91
        refine zd_ifB_eq C 38 dX11_leavesOf_21 (by decide) (fun c3 => ?_) (fun c3 => ?_)
        · have hF := hF.1 c3
          refine zd_iconst C dX11_leavesOf_38 ?_
          refine zd_ior C dX11_leavesOf_39 ?_
          refine lv_istore_n (lv' := [(1, .int (zI (zOr (z) (0)))), (2, .int (zI (k))), (0, .ref (bs + (i)))]) C.1 C.2.1 dX11_leavesOf_40 rfl hl (by decide) rfl (fun ls hl => ?_)
          refine zd_iinc (k := 1) (lv' := [(2, .int (zI (k + 1))), (1, .int (zI (zOr (z) (0)))), (0, .ref (bs + (i)))]) C hl rfl dX11_leavesOf_41 (by decide) rfl (fun ls hl => ?_)
          refine lv_goto (tgt := 4) C.1 C.2.1 dX11_leavesOf_44 (by decide) ?_
          obtain ⟨o4, hF⟩ := hF
          exact ih1 (zOr (z) (0)) (k + 1) (zI_rg _) o4 hF.1 (Nat.lt_of_lt_of_le hF.2 (Nat.le_of_lt_succ hmu1)) _ _ _ hH hS (lv_sub hl [1, 0, 2] rfl)
        · have hF := hF.2 c3
          refine lv_aload_n C.1 C.2.1 dX11_leavesOf_24 rfl (lv_at hl 2 rfl) ?_
          refine lv_iload_n C.1 C.2.1 dX11_leavesOf_25 rfl (lv_at hl 1 rfl) ?_
          obtain ⟨o5, hF⟩ := hF
          refine zgoi (zrunV (As := [.int (zI (k))]) (rest := [.int (zI (z))]) C hE hH hS hl.1 (c_X11_soundChildren (l := l) hM (k) hk o5) k_RX11_547 ⟨Nat.le_of_ble_eq_true rfl, Nat.le_of_ble_eq_true rfl⟩ (zM_n0 hM) (zM_k0 hM) rfl rfl rfl (Nat.le_of_ble_eq_true rfl) dX11_leavesOf_26 ⟨Nat.zero_le _, Nat.zero_le _⟩) hS (fun rq Xq Yq Rq H locs hrq hq hH hS => ?_)
          obtain ⟨h91, h92⟩ := hq
          have h93 : Xq = X := congrArg (fun z => z.1) h92
          have h94 : Yq = Y := congrArg (fun z => z.2.1) h92
          have h95 : Rq = R := congrArg (fun z => z.2.2) h92
          rw [h93, h94, h95] at hH
          subst h91
          have hr6 := hrq
          have hF := hF hr6
          refine zd_if_ne C hr6 38 dX11_leavesOf_29 (by decide) (fun c7 => ?_) (fun c7 => ?_)
          · have hF := hF.1 c7
            refine zd_iconst C dX11_leavesOf_38 ?_
            refine zd_ior C dX11_leavesOf_39 ?_
            refine lv_istore_n (lv' := [(1, .int (zI (zOr (z) (0)))), (2, .int (zI (k))), (0, .ref (bs + (i)))]) C.1 C.2.1 dX11_leavesOf_40 rfl hl (by decide) rfl (fun ls hl => ?_)
            refine zd_iinc (k := 1) (lv' := [(2, .int (zI (k + 1))), (1, .int (zI (zOr (z) (0)))), (0, .ref (bs + (i)))]) C hl rfl dX11_leavesOf_41 (by decide) rfl (fun ls hl => ?_)
            refine lv_goto (tgt := 4) C.1 C.2.1 dX11_leavesOf_44 (by decide) ?_
            obtain ⟨o8, hF⟩ := hF
            exact ih1 (zOr (z) (0)) (k + 1) (zI_rg _) o8 hF.1 (Nat.lt_of_lt_of_le hF.2 (Nat.le_of_lt_succ hmu1)) _ _ _ hH hS (lv_sub hl [1, 0, 2] rfl)
          · have hF := hF.2 c7
            refine zd_iconst C dX11_leavesOf_32 ?_
            refine lv_iload_n C.1 C.2.1 dX11_leavesOf_33 rfl (lv_at hl 1 rfl) ?_
            refine zd_ishl C dX11_leavesOf_34 ?_
            refine lv_goto (tgt := 39) C.1 C.2.1 dX11_leavesOf_35 (by decide) ?_
            refine zd_ior C dX11_leavesOf_39 ?_
            refine lv_istore_n (lv' := [(1, .int (zI (zOr (z) (zShl (1) (k))))), (2, .int (zI (k))), (0, .ref (bs + (i)))]) C.1 C.2.1 dX11_leavesOf_40 rfl hl (by decide) rfl (fun ls hl => ?_)
            refine zd_iinc (k := 1) (lv' := [(2, .int (zI (k + 1))), (1, .int (zI (zOr (z) (zShl (1) (k))))), (0, .ref (bs + (i)))]) C hl rfl dX11_leavesOf_41 (by decide) rfl (fun ls hl => ?_)
            refine lv_goto (tgt := 4) C.1 C.2.1 dX11_leavesOf_44 (by decide) ?_
            obtain ⟨o9, hF⟩ := hF
            exact ih1 (zOr (z) (zShl (1) (k))) (k + 1) (zI_rg _) o9 hF.1 (Nat.lt_of_lt_of_le hF.2 (Nat.le_of_lt_succ hmu1)) _ _ _ hH hS (lv_sub hl [1, 0, 2] rfl)
  exact L1 (((X i 27 - ((0 : Int))).toNat) + 1) ((0 : Int)) ((0 : Int)) (by decide) (by decide) hI1 (Nat.lt_succ_self _) _ _ _ hH hS (lv_sub hl [1, 0, 2] rfl)
theorem v_X11_leavesOf {X Y : Nat → Int → Int} {R : Nat → Int → Option Nat} {i : Nat}  (hp : oH X Y i) : F_X11_leavesOf i X Y R  := by
  unfold F_X11_leavesOf
  intro hX hY
  have h := hp
  have h27 := h.1.2.2.1
  have hbs := h.1.2.2.2
  have h35 := h.2.2.2.1
  have hl := h.2.2.1
  have sd : ∀ q : Nat, (q : Int) < X i 27 → mHas (X i 35) q = sdf X i q := fun q hq => by
    rw [h35]
    exact bS_has _ (by omega) (by omega)
  have ep : ∀ q : Nat, 1 ≤ q → (q : Int) < X i 27 → mPar X i q = rP X i q := fun q h1 h2 => rP_c hbs.1 h1 (by omega)
  have pb : ∀ q : Nat, 1 ≤ q → (q : Int) < X i 27 → rP X i q < q := fun q h1 h2 => rP_par hbs.1 q h1 (by omega)
  have hW := (oH_W h).2.2
  refine ⟨⟨0, rfl, by omega, rfl⟩, fun z k zr kr hI => ?_⟩
  obtain ⟨q, hq, q2, hz⟩ := hI
  subst hq
  refine ⟨fun c => by rw [hz, show (X i 27).toNat = q by omega], fun c => ?_⟩
  have nx := bS_st hz
  have bb := cN_b (fLv (rP X i) (sdf X i) (X i 27).toNat) q
  rw [sd q (by omega), Int.toNat_natCast]
  refine ⟨fun c1 => ⟨⟨by omega, by omega⟩, ⟨q + 1, by omega, by omega, nx.1 ?_⟩, by omega⟩, fun c1 => ⟨⟨h, by omega, by omega⟩, fun _ => ⟨fun c2 => ⟨⟨by omega, by omega⟩, ⟨q + 1, by omega, by omega, nx.1 ?_⟩, by omega⟩, fun c2 => ⟨⟨by omega, by omega⟩, ⟨q + 1, by omega, by omega, nx.2 ?_⟩, by omega⟩⟩⟩⟩
  · unfold fLv
    rw [c1, Bool.false_and]
  · unfold fLv
    rw [decide_eq_false (by omega), Bool.and_false]
  · unfold fLv
    rw [c1, decide_eq_true (by omega)]
    rfl
theorem c_X11_leavesOf {l : Launch} {D : va_G} {cy : Nat → ClassId} {bs N : Nat} {sa : Nat → Nat} {kd len : Nat → Nat} {X Y : Nat → Int → Int} {R : Nat → Int → Option Nat} {i : Nat} (hM : zM N kd len R i)  (hp : oH X Y i) : Met l yX11_leavesOf (.code yX11_leavesOf cX11_leavesOf 3 (some .int) :: zTB) (zRm 3 66) (zPc D cy bs sa N kd len X Y R [.ref (bs + (i))]) (zQi D cy bs N kd len (fun r st => r = bS (fLv (rP X i) (sdf X i) (X i 27).toNat) (X i 27).toNat ∧ st = (X, Y, R))) 0 0 (zA bs) := w_X11_leavesOf hM  (v_X11_leavesOf  hp)
abbrev cX11_forks : ByteArray := prog_13_method_120_code
def yX11_forks : MethodName := ⟨RX11, "forks", "()I"⟩
theorem dX11_forks_0 : decode cX11_forks 0 = .ok (.iconst 0, 1) := by decide +kernel
theorem dX11_forks_1 : decode cX11_forks 1 = .ok (.istore_n 1, 1) := by decide +kernel
theorem dX11_forks_2 : decode cX11_forks 2 = .ok (.iconst 0, 1) := by decide +kernel
theorem dX11_forks_3 : decode cX11_forks 3 = .ok (.istore_n 2, 1) := by decide +kernel
theorem dX11_forks_4 : decode cX11_forks 4 = .ok (.iload_n 2, 1) := by decide +kernel
theorem dX11_forks_5 : decode cX11_forks 5 = .ok (.aload_n 0, 1) := by decide +kernel
theorem dX11_forks_6 : decode cX11_forks 6 = .ok (.getfield 255, 3) := by decide +kernel
theorem dX11_forks_9 : decode cX11_forks 9 = .ok (.if_icmp .ge 37, 3) := by decide +kernel
theorem dX11_forks_12 : decode cX11_forks 12 = .ok (.iload_n 1, 1) := by decide +kernel
theorem dX11_forks_13 : decode cX11_forks 13 = .ok (.aload_n 0, 1) := by decide +kernel
theorem dX11_forks_14 : decode cX11_forks 14 = .ok (.getfield 292, 3) := by decide +kernel
theorem dX11_forks_17 : decode cX11_forks 17 = .ok (.iload_n 2, 1) := by decide +kernel
theorem dX11_forks_18 : decode cX11_forks 18 = .ok (.invokestatic 92, 3) := by decide +kernel
theorem dX11_forks_21 : decode cX11_forks 21 = .ok (.ifCond .eq 16, 3) := by decide +kernel
theorem dX11_forks_24 : decode cX11_forks 24 = .ok (.aload_n 0, 1) := by decide +kernel
theorem dX11_forks_25 : decode cX11_forks 25 = .ok (.iload_n 2, 1) := by decide +kernel
theorem dX11_forks_26 : decode cX11_forks 26 = .ok (.invokevirtual 547, 3) := by decide +kernel
theorem dX11_forks_29 : decode cX11_forks 29 = .ok (.iconst 1, 1) := by decide +kernel
theorem dX11_forks_30 : decode cX11_forks 30 = .ok (.if_icmp .le 7, 3) := by decide +kernel
theorem dX11_forks_33 : decode cX11_forks 33 = .ok (.iconst 1, 1) := by decide +kernel
theorem dX11_forks_34 : decode cX11_forks 34 = .ok (.goto 4, 3) := by decide +kernel
theorem dX11_forks_37 : decode cX11_forks 37 = .ok (.iconst 0, 1) := by decide +kernel
theorem dX11_forks_38 : decode cX11_forks 38 = .ok (.iadd, 1) := by decide +kernel
theorem dX11_forks_39 : decode cX11_forks 39 = .ok (.istore_n 1, 1) := by decide +kernel
theorem dX11_forks_40 : decode cX11_forks 40 = .ok (.iinc 2 1, 3) := by decide +kernel
theorem dX11_forks_43 : decode cX11_forks 43 = .ok (.goto (-39), 3) := by decide +kernel
theorem dX11_forks_46 : decode cX11_forks 46 = .ok (.iload_n 1, 1) := by decide +kernel
theorem dX11_forks_47 : decode cX11_forks 47 = .ok (.ireturn, 1) := by decide +kernel
def F_X11_forks (i : Nat) (X Y : Nat → Int → Int) (R : Nat → Int → Option Nat)  : Prop := (∀ i j, rI (X i j)) → (∀ i j, rL (Y i j)) → (∃ q : Nat, (0 : Int) = q ∧ (0 : Int) ≤ X i 27 ∧ (0 : Int) = cN (fFk (rP X i) (sdf X i) (X i 27).toNat) q) ∧ (∀ (z : Int) (k : Int), rI z → rI k → (∃ q : Nat, k = q ∧ k ≤ X i 27 ∧ z = cN (fFk (rP X i) (sdf X i) (X i 27).toNat) q) → ((((X (i) 27) ≤ k) → (z = cN (fFk (rP X i) (sdf X i) (X i 27).toNat) (X i 27).toNat)) ∧ ((¬ ((X (i) 27) ≤ k)) → ((((mHas (X (i) 35) (k)) = false) → ((rI (z + 0)) ∧ (rI (k + 1)) ∧ (∃ q : Nat, k + 1 = q ∧ k + 1 ≤ X i 27 ∧ z + 0 = cN (fFk (rP X i) (sdf X i) (X i 27).toNat) q) ∧ (((X i 27 - (k + 1)).toNat) < ((X i 27 - (k)).toNat)))) ∧ (((mHas (X (i) 35) (k)) = true) → ((oH X Y i ∧ 0 ≤ k ∧ k < X i 27) ∧ (rI (cN (fSc (rP X i) (sdf X i) (k).toNat) (X i 27).toNat) → ((((cN (fSc (rP X i) (sdf X i) (k).toNat) (X i 27).toNat) ≤ 1) → ((rI (z + 0)) ∧ (rI (k + 1)) ∧ (∃ q : Nat, k + 1 = q ∧ k + 1 ≤ X i 27 ∧ z + 0 = cN (fFk (rP X i) (sdf X i) (X i 27).toNat) q) ∧ (((X i 27 - (k + 1)).toNat) < ((X i 27 - (k)).toNat)))) ∧ ((¬ ((cN (fSc (rP X i) (sdf X i) (k).toNat) (X i 27).toNat) ≤ 1)) → ((rI (z + 1)) ∧ (rI (k + 1)) ∧ (∃ q : Nat, k + 1 = q ∧ k + 1 ≤ X i 27 ∧ z + 1 = cN (fFk (rP X i) (sdf X i) (X i 27).toNat) q) ∧ (((X i 27 - (k + 1)).toNat) < ((X i 27 - (k)).toNat))))))))))))
set_option maxHeartbeats 4000000 in
set_option maxRecDepth 100000 in
theorem w_X11_forks {l : Launch} {D : va_G} {cy : Nat → ClassId} {bs N : Nat} {sa : Nat → Nat} {kd len : Nat → Nat} {X Y : Nat → Int → Int} {R : Nat → Int → Option Nat} {i : Nat} (hM : zM N kd len R i)  (hF : F_X11_forks i X Y R ) : Met l yX11_forks (.code yX11_forks cX11_forks 3 (some .int) :: zTB) (zRm 3 66) (zPc D cy bs sa N kd len X Y R [.ref (bs + (i))]) (zQi D cy bs N kd len (fun r st => r = cN (fFk (rP X i) (sdf X i) (X i 27).toNat) (X i 27).toNat ∧ st = (X, Y, R))) 0 0 (zA bs) := by
  refine zstart (by decide) (Nat.le_of_ble_eq_true rfl) ?_
  intro p e s m args below meth c ls C hE hH hr hlk hnm hl hargs
  have hF := hF hH.2.2.1 hH.2.2.2
  have hS : va_S (zA bs) s.heap s.heap [] := va_S.rf
  have hl : lv_has ls 3 [(0, .ref (bs + (i)))] := hl
  refine zd_iconst C dX11_forks_0 ?_
  refine lv_istore_n (lv' := [(1, .int (zI (0))), (0, .ref (bs + (i)))]) C.1 C.2.1 dX11_forks_1 rfl hl (by decide) rfl (fun ls hl => ?_)
  refine zd_iconst C dX11_forks_2 ?_
  refine lv_istore_n (lv' := [(2, .int (zI (0))), (1, .int (zI (0))), (0, .ref (bs + (i)))]) C.1 C.2.1 dX11_forks_3 rfl hl (by decide) rfl (fun ls hl => ?_)
  obtain ⟨hI1, hF⟩ := hF
  have L1 : ∀ (fu : Nat) (z : Int) (k : Int), rI z → rI k → (∃ q : Nat, k = q ∧ k ≤ X i 27 ∧ z = cN (fFk (rP X i) (sdf X i) (X i 27).toNat) q) → ((X i 27 - (k)).toNat) < fu → ∀ (H : Heap) (locs : List Loc) (ls : Array Slot), zH D cy bs N kd len X Y R H → va_S (zA bs) s.heap H locs → lv_has ls 3 [(1, .int (zI (z))), (2, .int (zI (k))), (0, .ref (bs + (i)))] → W p l e (zRm 3 66) s m args below meth c H locs 0 0 (MQ below (zQi D cy bs N kd len (fun r st => r = cN (fFk (rP X i) (sdf X i) (X i 27).toNat) (X i 27).toNat ∧ st = (X, Y, R))) args s 0 0 (zA bs)) (F0 m 4 ls []) := by
    intro fu
    induction fu with
    | zero => intro z k _ _ _ hmu; exact absurd hmu (Nat.not_lt_zero _)
    | succ fu ih1 =>
      intro z k hz hk hI hmu1 H locs ls hH hS hl
      have hF := hF z k hz hk  hI
      refine lv_iload_n C.1 C.2.1 dX11_forks_4 rfl (lv_at hl 1 rfl) ?_
      refine lv_aload_n C.1 C.2.1 dX11_forks_5 rfl (lv_at hl 2 rfl) ?_
      refine zg11_27 C hH (zM_n0 hM) (zM_k0 hM) q_1314 dX11_forks_6 ?_
      refine zd_icmp_ge C hk (hH.2.2.1 _ _) 46 dX11_forks_9 (by decide) (fun c2 => ?_) (fun c2 => ?_)
      · have hF := hF.1 c2
        refine lv_iload_n C.1 C.2.1 dX11_forks_46 rfl (lv_at hl 0 rfl) ?_
        exact zd_iret C hr hlk hH hS hz (⟨hF, rfl⟩) dX11_forks_47
      · have hF := hF.2 c2
        refine lv_iload_n C.1 C.2.1 dX11_forks_12 rfl (lv_at hl 0 rfl) ?_
        refine lv_aload_n C.1 C.2.1 dX11_forks_13 rfl (lv_at hl 2 rfl) ?_
        refine zg11_35 C hH (zM_n0 hM) (zM_k0 hM) q_1322 dX11_forks_14 ?_
        refine lv_iload_n C.1 C.2.1 dX11_forks_17 rfl (lv_at hl 1 rfl) ?_
        refine zgoi (zrunS (As := [.int (zI (X (i) 35)), .int (zI (k))]) (rest := [.int (zI (z))]) C hE hH hS hl.1 (c_X11_has (l := l)  (X (i) 35) (hH.2.2.1 _ _) (k) hk) k_RX11_92 ⟨Nat.le_of_ble_eq_true rfl, Nat.le_of_ble_eq_true rfl⟩ rfl (Nat.le_of_ble_eq_true rfl) dX11_forks_18 ⟨Nat.zero_le _, Nat.zero_le _⟩) hS (fun rq Xq Yq Rq H locs hrq hq hH hS => ?_)
        obtain ⟨h91, h92⟩ := hq
        have h93 : Xq = X := congrArg (fun z => z.1) h92
        have h94 : Yq = Y := congrArg (fun z => z.2.1) h92
        have h95 : Rq = R := congrArg (fun z => z.2.2) h92
        rw [h93, h94, h95] at hH
        subst h91
        refine zd_ifB_eq C 37 dX11_forks_21 (by decide) (fun c3 => ?_) (fun c3 => ?_)
        · have hF := hF.1 c3
          refine zd_iconst C dX11_forks_37 ?_
          refine zd_iadd C dX11_forks_38 ?_
          refine lv_istore_n (lv' := [(1, .int (zI (z + 0))), (2, .int (zI (k))), (0, .ref (bs + (i)))]) C.1 C.2.1 dX11_forks_39 rfl hl (by decide) rfl (fun ls hl => ?_)
          refine zd_iinc (k := 1) (lv' := [(2, .int (zI (k + 1))), (1, .int (zI (z + 0))), (0, .ref (bs + (i)))]) C hl rfl dX11_forks_40 (by decide) rfl (fun ls hl => ?_)
          refine lv_goto (tgt := 4) C.1 C.2.1 dX11_forks_43 (by decide) ?_
          obtain ⟨o4, hF⟩ := hF
          obtain ⟨o5, hF⟩ := hF
          exact ih1 (z + 0) (k + 1) o4 o5 hF.1 (Nat.lt_of_lt_of_le hF.2 (Nat.le_of_lt_succ hmu1)) _ _ _ hH hS (lv_sub hl [1, 0, 2] rfl)
        · have hF := hF.2 c3
          refine lv_aload_n C.1 C.2.1 dX11_forks_24 rfl (lv_at hl 2 rfl) ?_
          refine lv_iload_n C.1 C.2.1 dX11_forks_25 rfl (lv_at hl 1 rfl) ?_
          obtain ⟨o6, hF⟩ := hF
          refine zgoi (zrunV (As := [.int (zI (k))]) (rest := [.int (zI (z))]) C hE hH hS hl.1 (c_X11_soundChildren (l := l) hM (k) hk o6) k_RX11_547 ⟨Nat.le_of_ble_eq_true rfl, Nat.le_of_ble_eq_true rfl⟩ (zM_n0 hM) (zM_k0 hM) rfl rfl rfl (Nat.le_of_ble_eq_true rfl) dX11_forks_26 ⟨Nat.zero_le _, Nat.zero_le _⟩) hS (fun rq Xq Yq Rq H locs hrq hq hH hS => ?_)
          obtain ⟨h91, h92⟩ := hq
          have h93 : Xq = X := congrArg (fun z => z.1) h92
          have h94 : Yq = Y := congrArg (fun z => z.2.1) h92
          have h95 : Rq = R := congrArg (fun z => z.2.2) h92
          rw [h93, h94, h95] at hH
          subst h91
          have hr7 := hrq
          have hF := hF hr7
          refine zd_iconst C dX11_forks_29 ?_
          refine zd_icmp_le C hr7 (by decide) 37 dX11_forks_30 (by decide) (fun c8 => ?_) (fun c8 => ?_)
          · have hF := hF.1 c8
            refine zd_iconst C dX11_forks_37 ?_
            refine zd_iadd C dX11_forks_38 ?_
            refine lv_istore_n (lv' := [(1, .int (zI (z + 0))), (2, .int (zI (k))), (0, .ref (bs + (i)))]) C.1 C.2.1 dX11_forks_39 rfl hl (by decide) rfl (fun ls hl => ?_)
            refine zd_iinc (k := 1) (lv' := [(2, .int (zI (k + 1))), (1, .int (zI (z + 0))), (0, .ref (bs + (i)))]) C hl rfl dX11_forks_40 (by decide) rfl (fun ls hl => ?_)
            refine lv_goto (tgt := 4) C.1 C.2.1 dX11_forks_43 (by decide) ?_
            obtain ⟨o9, hF⟩ := hF
            obtain ⟨o10, hF⟩ := hF
            exact ih1 (z + 0) (k + 1) o9 o10 hF.1 (Nat.lt_of_lt_of_le hF.2 (Nat.le_of_lt_succ hmu1)) _ _ _ hH hS (lv_sub hl [1, 0, 2] rfl)
          · have hF := hF.2 c8
            refine zd_iconst C dX11_forks_33 ?_
            refine lv_goto (tgt := 38) C.1 C.2.1 dX11_forks_34 (by decide) ?_
            refine zd_iadd C dX11_forks_38 ?_
            refine lv_istore_n (lv' := [(1, .int (zI (z + 1))), (2, .int (zI (k))), (0, .ref (bs + (i)))]) C.1 C.2.1 dX11_forks_39 rfl hl (by decide) rfl (fun ls hl => ?_)
            refine zd_iinc (k := 1) (lv' := [(2, .int (zI (k + 1))), (1, .int (zI (z + 1))), (0, .ref (bs + (i)))]) C hl rfl dX11_forks_40 (by decide) rfl (fun ls hl => ?_)
            refine lv_goto (tgt := 4) C.1 C.2.1 dX11_forks_43 (by decide) ?_
            obtain ⟨o11, hF⟩ := hF
            obtain ⟨o12, hF⟩ := hF
            exact ih1 (z + 1) (k + 1) o11 o12 hF.1 (Nat.lt_of_lt_of_le hF.2 (Nat.le_of_lt_succ hmu1)) _ _ _ hH hS (lv_sub hl [1, 0, 2] rfl)
  exact L1 (((X i 27 - ((0 : Int))).toNat) + 1) ((0 : Int)) ((0 : Int)) (by decide) (by decide) hI1 (Nat.lt_succ_self _) _ _ _ hH hS (lv_sub hl [1, 0, 2] rfl)
theorem v_X11_forks {X Y : Nat → Int → Int} {R : Nat → Int → Option Nat} {i : Nat}  (hp : oH X Y i) : F_X11_forks i X Y R  := by
  unfold F_X11_forks
  intro hX hY
  have h := hp
  have h27 := h.1.2.2.1
  have hbs := h.1.2.2.2
  have h35 := h.2.2.2.1
  have hl := h.2.2.1
  have sd : ∀ q : Nat, (q : Int) < X i 27 → mHas (X i 35) q = sdf X i q := fun q hq => by
    rw [h35]
    exact bS_has _ (by omega) (by omega)
  have ep : ∀ q : Nat, 1 ≤ q → (q : Int) < X i 27 → mPar X i q = rP X i q := fun q h1 h2 => rP_c hbs.1 h1 (by omega)
  have pb : ∀ q : Nat, 1 ≤ q → (q : Int) < X i 27 → rP X i q < q := fun q h1 h2 => rP_par hbs.1 q h1 (by omega)
  have hW := (oH_W h).2.2
  refine ⟨⟨0, rfl, by omega, rfl⟩, fun z k zr kr hI => ?_⟩
  obtain ⟨q, hq, q2, hz⟩ := hI
  subst hq
  refine ⟨fun c => by rw [hz, show (X i 27).toNat = q by omega], fun c => ?_⟩
  have nx := cN_st hz
  have bb := cN_b (fFk (rP X i) (sdf X i) (X i 27).toNat) q
  rw [sd q (by omega), Int.toNat_natCast]
  refine ⟨fun c1 => ⟨⟨by omega, by omega⟩, ⟨by omega, by omega⟩, ⟨q + 1, by omega, by omega, nx.1 ?_⟩, by omega⟩, fun c1 => ⟨⟨h, by omega, by omega⟩, fun _ => ⟨fun c2 => ⟨⟨by omega, by omega⟩, ⟨by omega, by omega⟩, ⟨q + 1, by omega, by omega, nx.1 ?_⟩, by omega⟩, fun c2 => ⟨⟨by omega, by omega⟩, ⟨by omega, by omega⟩, ⟨q + 1, by omega, by omega, nx.2 ?_⟩, by omega⟩⟩⟩⟩
  · unfold fFk
    rw [c1, Bool.false_and]
  · unfold fFk
    rw [decide_eq_false (by omega), Bool.and_false]
  · unfold fFk
    rw [c1, decide_eq_true (by omega)]
    rfl
theorem c_X11_forks {l : Launch} {D : va_G} {cy : Nat → ClassId} {bs N : Nat} {sa : Nat → Nat} {kd len : Nat → Nat} {X Y : Nat → Int → Int} {R : Nat → Int → Option Nat} {i : Nat} (hM : zM N kd len R i)  (hp : oH X Y i) : Met l yX11_forks (.code yX11_forks cX11_forks 3 (some .int) :: zTB) (zRm 3 66) (zPc D cy bs sa N kd len X Y R [.ref (bs + (i))]) (zQi D cy bs N kd len (fun r st => r = cN (fFk (rP X i) (sdf X i) (X i 27).toNat) (X i 27).toNat ∧ st = (X, Y, R))) 0 0 (zA bs) := w_X11_forks hM  (v_X11_forks  hp)
abbrev cX11_turns : ByteArray := prog_13_method_125_code
def yX11_turns : MethodName := ⟨RX11, "turns", "()I"⟩
theorem dX11_turns_0 : decode cX11_turns 0 = .ok (.iconst 0, 1) := by decide +kernel
theorem dX11_turns_1 : decode cX11_turns 1 = .ok (.istore_n 1, 1) := by decide +kernel
theorem dX11_turns_2 : decode cX11_turns 2 = .ok (.iconst 1, 1) := by decide +kernel
theorem dX11_turns_3 : decode cX11_turns 3 = .ok (.istore_n 2, 1) := by decide +kernel
theorem dX11_turns_4 : decode cX11_turns 4 = .ok (.iload_n 2, 1) := by decide +kernel
theorem dX11_turns_5 : decode cX11_turns 5 = .ok (.aload_n 0, 1) := by decide +kernel
theorem dX11_turns_6 : decode cX11_turns 6 = .ok (.getfield 255, 3) := by decide +kernel
theorem dX11_turns_9 : decode cX11_turns 9 = .ok (.if_icmp .ge 50, 3) := by decide +kernel
theorem dX11_turns_12 : decode cX11_turns 12 = .ok (.iload_n 1, 1) := by decide +kernel
theorem dX11_turns_13 : decode cX11_turns 13 = .ok (.aload_n 0, 1) := by decide +kernel
theorem dX11_turns_14 : decode cX11_turns 14 = .ok (.getfield 292, 3) := by decide +kernel
theorem dX11_turns_17 : decode cX11_turns 17 = .ok (.iload_n 2, 1) := by decide +kernel
theorem dX11_turns_18 : decode cX11_turns 18 = .ok (.invokestatic 92, 3) := by decide +kernel
theorem dX11_turns_21 : decode cX11_turns 21 = .ok (.ifCond .eq 29, 3) := by decide +kernel
theorem dX11_turns_24 : decode cX11_turns 24 = .ok (.aload_n 0, 1) := by decide +kernel
theorem dX11_turns_25 : decode cX11_turns 25 = .ok (.getfield 50, 3) := by decide +kernel
theorem dX11_turns_28 : decode cX11_turns 28 = .ok (.iload_n 2, 1) := by decide +kernel
theorem dX11_turns_29 : decode cX11_turns 29 = .ok (.laload, 1) := by decide +kernel
theorem dX11_turns_30 : decode cX11_turns 30 = .ok (.aload_n 0, 1) := by decide +kernel
theorem dX11_turns_31 : decode cX11_turns 31 = .ok (.getfield 50, 3) := by decide +kernel
theorem dX11_turns_34 : decode cX11_turns 34 = .ok (.aload_n 0, 1) := by decide +kernel
theorem dX11_turns_35 : decode cX11_turns 35 = .ok (.iload_n 2, 1) := by decide +kernel
theorem dX11_turns_36 : decode cX11_turns 36 = .ok (.invokevirtual 264, 3) := by decide +kernel
theorem dX11_turns_39 : decode cX11_turns 39 = .ok (.laload, 1) := by decide +kernel
theorem dX11_turns_40 : decode cX11_turns 40 = .ok (.lcmp, 1) := by decide +kernel
theorem dX11_turns_41 : decode cX11_turns 41 = .ok (.ifCond .eq 9, 3) := by decide +kernel
theorem dX11_turns_44 : decode cX11_turns 44 = .ok (.iconst 1, 1) := by decide +kernel
theorem dX11_turns_45 : decode cX11_turns 45 = .ok (.iload_n 2, 1) := by decide +kernel
theorem dX11_turns_46 : decode cX11_turns 46 = .ok (.ishl, 1) := by decide +kernel
theorem dX11_turns_47 : decode cX11_turns 47 = .ok (.goto 4, 3) := by decide +kernel
theorem dX11_turns_50 : decode cX11_turns 50 = .ok (.iconst 0, 1) := by decide +kernel
theorem dX11_turns_51 : decode cX11_turns 51 = .ok (.ior, 1) := by decide +kernel
theorem dX11_turns_52 : decode cX11_turns 52 = .ok (.istore_n 1, 1) := by decide +kernel
theorem dX11_turns_53 : decode cX11_turns 53 = .ok (.iinc 2 1, 3) := by decide +kernel
theorem dX11_turns_56 : decode cX11_turns 56 = .ok (.goto (-52), 3) := by decide +kernel
theorem dX11_turns_59 : decode cX11_turns 59 = .ok (.iload_n 1, 1) := by decide +kernel
theorem dX11_turns_60 : decode cX11_turns 60 = .ok (.ireturn, 1) := by decide +kernel
def F_X11_turns (i : Nat) (X Y : Nat → Int → Int) (R : Nat → Int → Option Nat)  : Prop := (∀ i j, rI (X i j)) → (∀ i j, rL (Y i j)) → (∃ q : Nat, (1 : Int) = q ∧ 1 ≤ q ∧ (1 : Int) ≤ X i 27 ∧ (0 : Int) = bS (fTu (rP X i) (sdf X i) (rW X i)) q) ∧ (∀ (z : Int) (k : Int), rI z → rI k → (∃ q : Nat, k = q ∧ 1 ≤ q ∧ k ≤ X i 27 ∧ z = bS (fTu (rP X i) (sdf X i) (rW X i)) q) → ((((X (i) 27) ≤ k) → (z = bS (fTu (rP X i) (sdf X i) (rW X i)) (X i 27).toNat)) ∧ ((¬ ((X (i) 27) ≤ k)) → ((((mHas (X (i) 35) (k)) = false) → ((rI (k + 1)) ∧ (∃ q : Nat, k + 1 = q ∧ 1 ≤ q ∧ k + 1 ≤ X i 27 ∧ zOr (z) (0) = bS (fTu (rP X i) (sdf X i) (rW X i)) q) ∧ (((X i 27 - (k + 1)).toNat) < ((X i 27 - (k)).toNat)))) ∧ (((mHas (X (i) 35) (k)) = true) → ((0 ≤ k ∧ k < 15) ∧ ((oC X i ∧ 0 ≤ k ∧ k ≤ 14) ∧ (rI (mPar X i (k)) → ((0 ≤ (mPar X i (k)) ∧ (mPar X i (k)) < 15) ∧ ((((Y (i + 14) (k)) = (Y (i + 14) (mPar X i (k)))) → ((rI (k + 1)) ∧ (∃ q : Nat, k + 1 = q ∧ 1 ≤ q ∧ k + 1 ≤ X i 27 ∧ zOr (z) (0) = bS (fTu (rP X i) (sdf X i) (rW X i)) q) ∧ (((X i 27 - (k + 1)).toNat) < ((X i 27 - (k)).toNat)))) ∧ ((¬ ((Y (i + 14) (k)) = (Y (i + 14) (mPar X i (k))))) → ((rI (k + 1)) ∧ (∃ q : Nat, k + 1 = q ∧ 1 ≤ q ∧ k + 1 ≤ X i 27 ∧ zOr (z) (zShl (1) (k)) = bS (fTu (rP X i) (sdf X i) (rW X i)) q) ∧ (((X i 27 - (k + 1)).toNat) < ((X i 27 - (k)).toNat))))))))))))))
set_option maxHeartbeats 4000000 in
set_option maxRecDepth 100000 in
theorem w_X11_turns {l : Launch} {D : va_G} {cy : Nat → ClassId} {bs N : Nat} {sa : Nat → Nat} {kd len : Nat → Nat} {X Y : Nat → Int → Int} {R : Nat → Int → Option Nat} {i : Nat} (hM : zM N kd len R i)  (hF : F_X11_turns i X Y R ) : Met l yX11_turns (.code yX11_turns cX11_turns 3 (some .int) :: zTB) (zRm 2 43) (zPc D cy bs sa N kd len X Y R [.ref (bs + (i))]) (zQi D cy bs N kd len (fun r st => r = bS (fTu (rP X i) (sdf X i) (rW X i)) (X i 27).toNat ∧ st = (X, Y, R))) 0 0 (zA bs) := by
  refine zstart (by decide) (Nat.le_of_ble_eq_true rfl) ?_
  intro p e s m args below meth c ls C hE hH hr hlk hnm hl hargs
  have hF := hF hH.2.2.1 hH.2.2.2
  have hS : va_S (zA bs) s.heap s.heap [] := va_S.rf
  have hl : lv_has ls 3 [(0, .ref (bs + (i)))] := hl
  refine zd_iconst C dX11_turns_0 ?_
  refine lv_istore_n (lv' := [(1, .int (zI (0))), (0, .ref (bs + (i)))]) C.1 C.2.1 dX11_turns_1 rfl hl (by decide) rfl (fun ls hl => ?_)
  refine zd_iconst C dX11_turns_2 ?_
  refine lv_istore_n (lv' := [(2, .int (zI (1))), (1, .int (zI (0))), (0, .ref (bs + (i)))]) C.1 C.2.1 dX11_turns_3 rfl hl (by decide) rfl (fun ls hl => ?_)
  obtain ⟨hI1, hF⟩ := hF
  have L1 : ∀ (fu : Nat) (z : Int) (k : Int), rI z → rI k → (∃ q : Nat, k = q ∧ 1 ≤ q ∧ k ≤ X i 27 ∧ z = bS (fTu (rP X i) (sdf X i) (rW X i)) q) → ((X i 27 - (k)).toNat) < fu → ∀ (H : Heap) (locs : List Loc) (ls : Array Slot), zH D cy bs N kd len X Y R H → va_S (zA bs) s.heap H locs → lv_has ls 3 [(1, .int (zI (z))), (2, .int (zI (k))), (0, .ref (bs + (i)))] → W p l e (zRm 2 43) s m args below meth c H locs 0 0 (MQ below (zQi D cy bs N kd len (fun r st => r = bS (fTu (rP X i) (sdf X i) (rW X i)) (X i 27).toNat ∧ st = (X, Y, R))) args s 0 0 (zA bs)) (F0 m 4 ls []) := by
    intro fu
    induction fu with
    | zero => intro z k _ _ _ hmu; exact absurd hmu (Nat.not_lt_zero _)
    | succ fu ih1 =>
      intro z k hz hk hI hmu1 H locs ls hH hS hl
      have hF := hF z k hz hk  hI
      refine lv_iload_n C.1 C.2.1 dX11_turns_4 rfl (lv_at hl 1 rfl) ?_
      refine lv_aload_n C.1 C.2.1 dX11_turns_5 rfl (lv_at hl 2 rfl) ?_
      refine zg11_27 C hH (zM_n0 hM) (zM_k0 hM) q_1314 dX11_turns_6 ?_
      refine zd_icmp_ge C hk (hH.2.2.1 _ _) 59 dX11_turns_9 (by decide) (fun c2 => ?_) (fun c2 => ?_)
      · have hF := hF.1 c2
        refine lv_iload_n C.1 C.2.1 dX11_turns_59 rfl (lv_at hl 0 rfl) ?_
        exact zd_iret C hr hlk hH hS hz (⟨hF, rfl⟩) dX11_turns_60
      · have hF := hF.2 c2
        refine lv_iload_n C.1 C.2.1 dX11_turns_12 rfl (lv_at hl 0 rfl) ?_
        refine lv_aload_n C.1 C.2.1 dX11_turns_13 rfl (lv_at hl 2 rfl) ?_
        refine zg11_35 C hH (zM_n0 hM) (zM_k0 hM) q_1322 dX11_turns_14 ?_
        refine lv_iload_n C.1 C.2.1 dX11_turns_17 rfl (lv_at hl 1 rfl) ?_
        refine zgoi (zrunS (As := [.int (zI (X (i) 35)), .int (zI (k))]) (rest := [.int (zI (z))]) C hE hH hS hl.1 (c_X11_has (l := l)  (X (i) 35) (hH.2.2.1 _ _) (k) hk) k_RX11_92 ⟨Nat.le_of_ble_eq_true rfl, Nat.le_of_ble_eq_true rfl⟩ rfl (Nat.le_of_ble_eq_true rfl) dX11_turns_18 ⟨Nat.zero_le _, Nat.zero_le _⟩) hS (fun rq Xq Yq Rq H locs hrq hq hH hS => ?_)
        obtain ⟨h91, h92⟩ := hq
        have h93 : Xq = X := congrArg (fun z => z.1) h92
        have h94 : Yq = Y := congrArg (fun z => z.2.1) h92
        have h95 : Rq = R := congrArg (fun z => z.2.2) h92
        rw [h93, h94, h95] at hH
        subst h91
        refine zd_ifB_eq C 50 dX11_turns_21 (by decide) (fun c3 => ?_) (fun c3 => ?_)
        · have hF := hF.1 c3
          refine zd_iconst C dX11_turns_50 ?_
          refine zd_ior C dX11_turns_51 ?_
          refine lv_istore_n (lv' := [(1, .int (zI (zOr (z) (0)))), (2, .int (zI (k))), (0, .ref (bs + (i)))]) C.1 C.2.1 dX11_turns_52 rfl hl (by decide) rfl (fun ls hl => ?_)
          refine zd_iinc (k := 1) (lv' := [(2, .int (zI (k + 1))), (1, .int (zI (zOr (z) (0)))), (0, .ref (bs + (i)))]) C hl rfl dX11_turns_53 (by decide) rfl (fun ls hl => ?_)
          refine lv_goto (tgt := 4) C.1 C.2.1 dX11_turns_56 (by decide) ?_
          obtain ⟨o4, hF⟩ := hF
          exact ih1 (zOr (z) (0)) (k + 1) (zI_rg _) o4 hF.1 (Nat.lt_of_lt_of_le hF.2 (Nat.le_of_lt_succ hmu1)) _ _ _ hH hS (lv_sub hl [1, 0, 2] rfl)
        · have hF := hF.2 c3
          refine lv_aload_n C.1 C.2.1 dX11_turns_24 rfl (lv_at hl 2 rfl) ?_
          refine zg11_32 C hH (zM_n0 hM) (zM_k0 hM) q_1319 (zM_r14 hM) dX11_turns_25 ?_
          refine lv_iload_n C.1 C.2.1 dX11_turns_28 rfl (lv_at hl 1 rfl) ?_
          obtain ⟨o5, hF⟩ := hF
          refine zd_lald C hH (zM_n14 hM) (zM_k14 hM) o5.1 (by rw [zM_l14 hM]; exact o5.2) (by rw [zM_l14 hM]; decide) dX11_turns_29 ?_
          refine lv_aload_n C.1 C.2.1 dX11_turns_30 rfl (lv_at hl 2 rfl) ?_
          refine zg11_32 C hH (zM_n0 hM) (zM_k0 hM) q_1319 (zM_r14 hM) dX11_turns_31 ?_
          refine lv_aload_n C.1 C.2.1 dX11_turns_34 rfl (lv_at hl 2 rfl) ?_
          refine lv_iload_n C.1 C.2.1 dX11_turns_35 rfl (lv_at hl 1 rfl) ?_
          obtain ⟨o6, hF⟩ := hF
          refine zgoi (zrunV (As := [.int (zI (k))]) (rest := [.ref (bs + (i + 14)), .long (zL (Y (i + 14) (k))), .int (zI (z))]) C hE hH hS hl.1 (c_X11_parentOf (l := l) hM (k) hk o6) k_RX11_264 ⟨Nat.le_of_ble_eq_true rfl, Nat.le_of_ble_eq_true rfl⟩ (zM_n0 hM) (zM_k0 hM) rfl rfl rfl (Nat.le_of_ble_eq_true rfl) dX11_turns_36 ⟨Nat.zero_le _, Nat.zero_le _⟩) hS (fun rq Xq Yq Rq H locs hrq hq hH hS => ?_)
          obtain ⟨h91, h92⟩ := hq
          have h93 : Xq = X := congrArg (fun z => z.1) h92
          have h94 : Yq = Y := congrArg (fun z => z.2.1) h92
          have h95 : Rq = R := congrArg (fun z => z.2.2) h92
          rw [h93, h94, h95] at hH
          subst h91
          have hr7 := hrq
          have hF := hF hr7
          obtain ⟨o8, hF⟩ := hF
          refine zd_lald C hH (zM_n14 hM) (zM_k14 hM) o8.1 (by rw [zM_l14 hM]; exact o8.2) (by rw [zM_l14 hM]; decide) dX11_turns_39 ?_
          refine zd_lcmp C (hH.2.2.2 _ _) (hH.2.2.2 _ _) dX11_turns_40 ?_
          refine zd_ifL_eq C 50 dX11_turns_41 (by decide) (fun c9 => ?_) (fun c9 => ?_)
          · have hF := hF.1 c9
            refine zd_iconst C dX11_turns_50 ?_
            refine zd_ior C dX11_turns_51 ?_
            refine lv_istore_n (lv' := [(1, .int (zI (zOr (z) (0)))), (2, .int (zI (k))), (0, .ref (bs + (i)))]) C.1 C.2.1 dX11_turns_52 rfl hl (by decide) rfl (fun ls hl => ?_)
            refine zd_iinc (k := 1) (lv' := [(2, .int (zI (k + 1))), (1, .int (zI (zOr (z) (0)))), (0, .ref (bs + (i)))]) C hl rfl dX11_turns_53 (by decide) rfl (fun ls hl => ?_)
            refine lv_goto (tgt := 4) C.1 C.2.1 dX11_turns_56 (by decide) ?_
            obtain ⟨o10, hF⟩ := hF
            exact ih1 (zOr (z) (0)) (k + 1) (zI_rg _) o10 hF.1 (Nat.lt_of_lt_of_le hF.2 (Nat.le_of_lt_succ hmu1)) _ _ _ hH hS (lv_sub hl [1, 0, 2] rfl)
          · have hF := hF.2 c9
            refine zd_iconst C dX11_turns_44 ?_
            refine lv_iload_n C.1 C.2.1 dX11_turns_45 rfl (lv_at hl 1 rfl) ?_
            refine zd_ishl C dX11_turns_46 ?_
            refine lv_goto (tgt := 51) C.1 C.2.1 dX11_turns_47 (by decide) ?_
            refine zd_ior C dX11_turns_51 ?_
            refine lv_istore_n (lv' := [(1, .int (zI (zOr (z) (zShl (1) (k))))), (2, .int (zI (k))), (0, .ref (bs + (i)))]) C.1 C.2.1 dX11_turns_52 rfl hl (by decide) rfl (fun ls hl => ?_)
            refine zd_iinc (k := 1) (lv' := [(2, .int (zI (k + 1))), (1, .int (zI (zOr (z) (zShl (1) (k))))), (0, .ref (bs + (i)))]) C hl rfl dX11_turns_53 (by decide) rfl (fun ls hl => ?_)
            refine lv_goto (tgt := 4) C.1 C.2.1 dX11_turns_56 (by decide) ?_
            obtain ⟨o11, hF⟩ := hF
            exact ih1 (zOr (z) (zShl (1) (k))) (k + 1) (zI_rg _) o11 hF.1 (Nat.lt_of_lt_of_le hF.2 (Nat.le_of_lt_succ hmu1)) _ _ _ hH hS (lv_sub hl [1, 0, 2] rfl)
  exact L1 (((X i 27 - ((1 : Int))).toNat) + 1) ((0 : Int)) ((1 : Int)) (by decide) (by decide) hI1 (Nat.lt_succ_self _) _ _ _ hH hS (lv_sub hl [1, 0, 2] rfl)
theorem v_X11_turns {X Y : Nat → Int → Int} {R : Nat → Int → Option Nat} {i : Nat}  (hp : oH X Y i) : F_X11_turns i X Y R  := by
  unfold F_X11_turns
  intro hX hY
  have h := hp
  have h27 := h.1.2.2.1
  have hbs := h.1.2.2.2
  have h35 := h.2.2.2.1
  have hl := h.2.2.1
  have sd : ∀ q : Nat, (q : Int) < X i 27 → mHas (X i 35) q = sdf X i q := fun q hq => by
    rw [h35]
    exact bS_has _ (by omega) (by omega)
  have ep : ∀ q : Nat, 1 ≤ q → (q : Int) < X i 27 → mPar X i q = rP X i q := fun q h1 h2 => rP_c hbs.1 h1 (by omega)
  have pb : ∀ q : Nat, 1 ≤ q → (q : Int) < X i 27 → rP X i q < q := fun q h1 h2 => rP_par hbs.1 q h1 (by omega)
  have hW := (oH_W h).2.2
  refine ⟨⟨1, rfl, by decide, by omega, rfl⟩, fun z k zr kr hI => ?_⟩
  obtain ⟨q, hq, q1, q2, hz⟩ := hI
  subst hq
  refine ⟨fun c => by rw [hz, show (X i 27).toNat = q by omega], fun c => ?_⟩
  have nx := bS_st hz
  have o1 : decide (1 ≤ q) = true := decide_eq_true q1
  have pq := pb q q1 (by omega)
  rw [sd q (by omega), ep q q1 (by omega), (hl q (by omega)).2.1, (hl (rP X i q) (by omega)).2.1]
  refine ⟨fun c1 => ⟨⟨by omega, by omega⟩, ⟨q + 1, by omega, by omega, by omega, nx.1 ?_⟩, by omega⟩, fun c1 => ⟨⟨by omega, by omega⟩, ⟨hbs.1.1, by omega, by omega⟩, fun _ => ⟨⟨by omega, by omega⟩, fun c2 => ⟨⟨by omega, by omega⟩, ⟨q + 1, by omega, by omega, by omega, nx.1 ?_⟩, by omega⟩, fun c2 => ⟨⟨by omega, by omega⟩, ⟨q + 1, by omega, by omega, by omega, nx.2 ?_⟩, by omega⟩⟩⟩⟩
  · unfold fTu
    rw [c1, Bool.false_and, Bool.and_false]
  · unfold fTu
    rw [decide_eq_false (show ¬ (rW X i q ≠ rW X i (rP X i q)) from fun g => g c2), Bool.and_false, Bool.and_false]
  · unfold fTu
    rw [o1, c1, decide_eq_true c2]
    rfl
theorem c_X11_turns {l : Launch} {D : va_G} {cy : Nat → ClassId} {bs N : Nat} {sa : Nat → Nat} {kd len : Nat → Nat} {X Y : Nat → Int → Int} {R : Nat → Int → Option Nat} {i : Nat} (hM : zM N kd len R i)  (hp : oH X Y i) : Met l yX11_turns (.code yX11_turns cX11_turns 3 (some .int) :: zTB) (zRm 2 43) (zPc D cy bs sa N kd len X Y R [.ref (bs + (i))]) (zQi D cy bs N kd len (fun r st => r = bS (fTu (rP X i) (sdf X i) (rW X i)) (X i 27).toNat ∧ st = (X, Y, R))) 0 0 (zA bs) := w_X11_turns hM  (v_X11_turns  hp)
