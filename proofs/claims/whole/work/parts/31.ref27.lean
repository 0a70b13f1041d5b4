/-- what doing a head or a body comes to -/
theorem do_g {X X10 X12 X14 Y Y15 : Nat → Int → Int} {i : Nat} {g1 g2 : Int} (h : oH X Y i) (hc : oCS (cX X i, kX X i) (X i 27).toNat 900 900) (e10 : X10 = zU (zU X i 41 (zOr (X i 41) g1)) i 42 (zOr (X i 42) g2)) :
    (oH X10 Y i ∧ 0 ≤ X10 i 37 ∧ X10 i 37 ≤ 900) ∧ ((tW X10 X12 i ∧ ∀ t, cR X10 i (X10 i 27).toNat t → cR X12 i (X10 i 27).toNat (csMk (rCx X10 i) t (X10 i 27).toNat)) → ((oH X12 Y i ∧ mHas (X12 i 36) 0 = true ∧ oCs (cX X12 i) (X12 i 27).toNat 100000 100000) ∧ (((∀ a, a ≠ i → X14 a = X12 a) ∧ (∀ s, (s < 43 ∨ 47 < s) → X14 i s = X12 i s) ∧ cX X14 i = csCh (rP X12 i) (cX X12 i) (mCt X12 Y i) ∧ ∀ a, a ≠ i + 18 → Y15 a = Y a) → fK X X14 Y Y15 i ∧ ∀ t, cR X i (X i 27).toNat t → cR X14 i (X i 27).toNat (csC (rCx X i) (csMk (rCx X i) (cU (cU t.1 1 (zOr (t.1 1) g1)) 2 (zOr (t.1 2) g2), t.2) (X i 27).toNat))))) := by
  have h27 := h.1.2.2.1
  have f1 : fK X X10 Y Y i := by
    rw [e10]
    exact ⟨fun z g1 g2 => by rw [zU_o g1, zU_o g1], fun s hs => by rw [zU_n (by omega), zU_n (by omega)], fun _ _ => rfl⟩
  have s28 : X10 i 28 = X i 28 := by rw [e10, zU_n (by omega), zU_n (by omega)]
  have s27 : X10 i 27 = X i 27 := f1.2.1 _ (by omega)
  have s37 : X10 i 37 = X i 37 := by rw [e10, zU_n (by omega), zU_n (by omega)]
  have c37 : 0 ≤ X i 37 ∧ X i 37 ≤ 900 := hc.1.2.2.2.2.2
  have o1 : oH X10 Y i := oH_f f1 (by rw [s28]; exact h.2.1.1) h
  have r1 : rCx X10 i = rCx X i := rCx_t f1
  have k10 : ∀ t, cR X i (X i 27).toNat t → cR X10 i (X i 27).toNat (cU (cU t.1 1 (zOr (t.1 1) g1)) 2 (zOr (t.1 2) g2), t.2) := fun t ht => by
    have u1 : X i 41 = t.1 1 := congrFun ht.1 1
    have u2 : X i 42 = t.1 2 := congrFun ht.1 2
    refine ⟨?_, fun j hj hw => ?_⟩
    · rw [e10, cX_42, cX_41, ht.1, u1, u2]
    · rw [e10, zU_o (by omega), zU_o (by omega)]
      exact ht.2 j hj hw
  refine ⟨⟨o1, by omega, by omega⟩, fun hm => ?_⟩
  rw [s27, r1] at hm
  obtain ⟨tw, hm⟩ := hm
  have f2 : fK X X12 Y Y i := f1.tr (tW_f tw)
  have s28' : X12 i 28 = X i 28 := (tw.2 28 (by decide) (by decide)).trans s28
  have s27' : X12 i 27 = X i 27 := f2.2.1 _ (by omega)
  have own := hm _ (k10 (cX X i, kX X i) ⟨rfl, fun _ _ _ => rfl⟩)
  have og : oCS (cU (cU (cX X i) 1 (zOr (cX X i 1) g1)) 2 (zOr (cX X i 2) g2), kX X i) (X i 27).toNat 900 900 := hc
  have ok := oCS_mk (x := rCx X i) (by show (X i 27).toNat ≤ 15; omega) og
  have o2 : oH X12 Y i := oH_f f2 (by rw [s28']; exact h.2.1.1) h
  have w36 : X12 i 36 = _ := congrFun own.1 3
  refine ⟨⟨o2, ?_, ?_⟩, fun hp => ?_⟩
  · rw [w36]
    exact ok.2.1
  · rw [s27', own.1]
    exact oCs_up (by decide) (by decide) ok.1
  · refine ⟨f2.tr (do_ch (n := (X i 27).toNat) (by rw [s27']) (by omega) ok.2.1 own hp).1, fun t ht => ?_⟩
    have u := hm _ (k10 t ht)
    have w0 : mHas (t.1 3) 0 = true := by
      rw [← congrFun ht.1 3]
      exact hc.2.1
    have w1 := (csMk_far (rCx X i) (cU (cU t.1 1 (zOr (t.1 1) g1)) 2 (zOr (t.1 2) g2), t.2) (by show (X i 27).toNat ≤ 15; omega) (X i 27).toNat (Nat.le_refl _)).2.2 0 (by decide) w0
    have q := (do_ch (n := (X i 27).toNat) (by rw [s27']) (by omega) w1 u hp).2
    rw [rCx_t f2] at q
    exact q
/-! FLIP, LATE, STEEPEST, EVEN -/
def stN (w : Nat → Bool) (P : Nat → Nat) (W : Nat → Int) : Nat → Int × Int
  | 0 => (-1, 0)
  | q + 1 => if decide (1 ≤ q) && (w q && decide ((stN w P W q).2 < W q - W (P q))) then ((q : Int), W q - W (P q)) else stN w P W q
def flTip (X : Nat → Int → Int) (i : Nat) (rho : Int) : Nat := sTip rho (rP X i) (rW X i) (rG X i) (mWo X i 0) (fun a b => decide (a < b)) (X i 27).toNat
def csL1 (x : Cx) (t : Cs) (q : Nat) : Cs := csC x (csMk x (cU (cU t.1 1 (zOr (t.1 1) (zShl 1 q))) 2 (zOr (t.1 2) (zShl 1 q)), t.2) (xN x))
def csLt (x : Cx) (t : Cs) : Nat → Cs
  | 0 => t
  | q + 1 => if q = 0 then csLt x t q else csL1 x (csLt x t q) q
abbrev cX11_steepest : ByteArray := prog_13_method_126_code
def yX11_steepest : MethodName := ⟨RX11, "steepest", "()I"⟩
theorem dX11_steepest_0 : decode cX11_steepest 0 = .ok (.iconst (-1), 1) := by decide +kernel
theorem dX11_steepest_1 : decode cX11_steepest 1 = .ok (.istore_n 1, 1) := by decide +kernel
theorem dX11_steepest_2 : decode cX11_steepest 2 = .ok (.lconst 0, 1) := by decide +kernel
theorem dX11_steepest_3 : decode cX11_steepest 3 = .ok (.lstore_n 2, 1) := by decide +kernel
theorem dX11_steepest_4 : decode cX11_steepest 4 = .ok (.iconst 1, 1) := by decide +kernel
theorem dX11_steepest_5 : decode cX11_steepest 5 = .ok (.istore 4, 2) := by decide +kernel
theorem dX11_steepest_7 : decode cX11_steepest 7 = .ok (.iload 4, 2) := by decide +kernel
theorem dX11_steepest_9 : decode cX11_steepest 9 = .ok (.aload_n 0, 1) := by decide +kernel
theorem dX11_steepest_10 : decode cX11_steepest 10 = .ok (.getfield 255, 3) := by decide +kernel
theorem dX11_steepest_13 : decode cX11_steepest 13 = .ok (.if_icmp .ge 74, 3) := by decide +kernel
theorem dX11_steepest_16 : decode cX11_steepest 16 = .ok (.aload_n 0, 1) := by decide +kernel
theorem dX11_steepest_17 : decode cX11_steepest 17 = .ok (.getfield 292, 3) := by decide +kernel
theorem dX11_steepest_20 : decode cX11_steepest 20 = .ok (.iload 4, 2) := by decide +kernel
theorem dX11_steepest_22 : decode cX11_steepest 22 = .ok (.invokestatic 92, 3) := by decide +kernel
theorem dX11_steepest_25 : decode cX11_steepest 25 = .ok (.ifCond .eq 25, 3) := by decide +kernel
theorem dX11_steepest_28 : decode cX11_steepest 28 = .ok (.aload_n 0, 1) := by decide +kernel
theorem dX11_steepest_29 : decode cX11_steepest 29 = .ok (.getfield 50, 3) := by decide +kernel
theorem dX11_steepest_32 : decode cX11_steepest 32 = .ok (.iload 4, 2) := by decide +kernel
theorem dX11_steepest_34 : decode cX11_steepest 34 = .ok (.laload, 1) := by decide +kernel
theorem dX11_steepest_35 : decode cX11_steepest 35 = .ok (.aload_n 0, 1) := by decide +kernel
theorem dX11_steepest_36 : decode cX11_steepest 36 = .ok (.getfield 50, 3) := by decide +kernel
theorem dX11_steepest_39 : decode cX11_steepest 39 = .ok (.aload_n 0, 1) := by decide +kernel
theorem dX11_steepest_40 : decode cX11_steepest 40 = .ok (.iload 4, 2) := by decide +kernel
theorem dX11_steepest_42 : decode cX11_steepest 42 = .ok (.invokevirtual 264, 3) := by decide +kernel
theorem dX11_steepest_45 : decode cX11_steepest 45 = .ok (.laload, 1) := by decide +kernel
theorem dX11_steepest_46 : decode cX11_steepest 46 = .ok (.lsub, 1) := by decide +kernel
theorem dX11_steepest_47 : decode cX11_steepest 47 = .ok (.goto 4, 3) := by decide +kernel
theorem dX11_steepest_50 : decode cX11_steepest 50 = .ok (.lconst 0, 1) := by decide +kernel
theorem dX11_steepest_51 : decode cX11_steepest 51 = .ok (.lstore 5, 2) := by decide +kernel
theorem dX11_steepest_53 : decode cX11_steepest 53 = .ok (.lload 5, 2) := by decide +kernel
theorem dX11_steepest_55 : decode cX11_steepest 55 = .ok (.lload_n 2, 1) := by decide +kernel
theorem dX11_steepest_56 : decode cX11_steepest 56 = .ok (.lcmp, 1) := by decide +kernel
theorem dX11_steepest_57 : decode cX11_steepest 57 = .ok (.ifCond .le 8, 3) := by decide +kernel
theorem dX11_steepest_60 : decode cX11_steepest 60 = .ok (.iload 4, 2) := by decide +kernel
theorem dX11_steepest_62 : decode cX11_steepest 62 = .ok (.goto 4, 3) := by decide +kernel
theorem dX11_steepest_65 : decode cX11_steepest 65 = .ok (.iload_n 1, 1) := by decide +kernel
theorem dX11_steepest_66 : decode cX11_steepest 66 = .ok (.istore_n 1, 1) := by decide +kernel
theorem dX11_steepest_67 : decode cX11_steepest 67 = .ok (.lload 5, 2) := by decide +kernel
theorem dX11_steepest_69 : decode cX11_steepest 69 = .ok (.lload_n 2, 1) := by decide +kernel
theorem dX11_steepest_70 : decode cX11_steepest 70 = .ok (.lcmp, 1) := by decide +kernel
theorem dX11_steepest_71 : decode cX11_steepest 71 = .ok (.ifCond .le 8, 3) := by decide +kernel
theorem dX11_steepest_74 : decode cX11_steepest 74 = .ok (.lload 5, 2) := by decide +kernel
theorem dX11_steepest_76 : decode cX11_steepest 76 = .ok (.goto 4, 3) := by decide +kernel
theorem dX11_steepest_79 : decode cX11_steepest 79 = .ok (.lload_n 2, 1) := by decide +kernel
theorem dX11_steepest_80 : decode cX11_steepest 80 = .ok (.lstore_n 2, 1) := by decide +kernel
theorem dX11_steepest_81 : decode cX11_steepest 81 = .ok (.iinc 4 1, 3) := by decide +kernel
theorem dX11_steepest_84 : decode cX11_steepest 84 = .ok (.goto (-77), 3) := by decide +kernel
theorem dX11_steepest_87 : decode cX11_steepest 87 = .ok (.iload_n 1, 1) := by decide +kernel
theorem dX11_steepest_88 : decode cX11_steepest 88 = .ok (.ireturn, 1) := by decide +kernel
def F_X11_steepest (i : Nat) (X Y : Nat → Int → Int) (R : Nat → Int → Option Nat)  : Prop := (∀ i j, rI (X i j)) → (∀ i j, rL (Y i j)) → (∃ q : Nat, (1 : Int) = q ∧ 1 ≤ q ∧ (1 : Int) ≤ X i 27 ∧ (-1 : Int) = (stN (sdf X i) (rP X i) (rW X i) q).1 ∧ (0 : Int) = (stN (sdf X i) (rP X i) (rW X i) q).2 ∧ 0 ≤ (0 : Int) ∧ (0 : Int) ≤ 26575110144) ∧ (∀ (best : Int) (most : Int) (k : Int), rI best → rL most → rI k → (∃ q : Nat, k = q ∧ 1 ≤ q ∧ k ≤ X i 27 ∧ best = (stN (sdf X i) (rP X i) (rW X i) q).1 ∧ most = (stN (sdf X i) (rP X i) (rW X i) q).2 ∧ 0 ≤ most ∧ most ≤ 26575110144) → ((((X (i) 27) ≤ k) → (best = (stN (sdf X i) (rP X i) (rW X i) (X i 27).toNat).1)) ∧ ((¬ ((X (i) 27) ≤ k)) → ((((mHas (X (i) 35) (k)) = false) → (((0 ≤ most) → (((0 ≤ most) → ((rI (k + 1)) ∧ (∃ q : Nat, k + 1 = q ∧ 1 ≤ q ∧ k + 1 ≤ X i 27 ∧ best = (stN (sdf X i) (rP X i) (rW X i) q).1 ∧ most = (stN (sdf X i) (rP X i) (rW X i) q).2 ∧ 0 ≤ most ∧ most ≤ 26575110144) ∧ (((X i 27 - (k + 1)).toNat) < ((X i 27 - (k)).toNat)))) ∧ ((¬ (0 ≤ most)) → ((rI (k + 1)) ∧ (∃ q : Nat, k + 1 = q ∧ 1 ≤ q ∧ k + 1 ≤ X i 27 ∧ best = (stN (sdf X i) (rP X i) (rW X i) q).1 ∧ (0 : Int) = (stN (sdf X i) (rP X i) (rW X i) q).2 ∧ 0 ≤ (0 : Int) ∧ (0 : Int) ≤ 26575110144) ∧ (((X i 27 - (k + 1)).toNat) < ((X i 27 - (k)).toNat)))))) ∧ ((¬ (0 ≤ most)) → (((0 ≤ most) → ((rI (k + 1)) ∧ (∃ q : Nat, k + 1 = q ∧ 1 ≤ q ∧ k + 1 ≤ X i 27 ∧ k = (stN (sdf X i) (rP X i) (rW X i) q).1 ∧ most = (stN (sdf X i) (rP X i) (rW X i) q).2 ∧ 0 ≤ most ∧ most ≤ 26575110144) ∧ (((X i 27 - (k + 1)).toNat) < ((X i 27 - (k)).toNat)))) ∧ ((¬ (0 ≤ most)) → ((rI (k + 1)) ∧ (∃ q : Nat, k + 1 = q ∧ 1 ≤ q ∧ k + 1 ≤ X i 27 ∧ k = (stN (sdf X i) (rP X i) (rW X i) q).1 ∧ (0 : Int) = (stN (sdf X i) (rP X i) (rW X i) q).2 ∧ 0 ≤ (0 : Int) ∧ (0 : Int) ≤ 26575110144) ∧ (((X i 27 - (k + 1)).toNat) < ((X i 27 - (k)).toNat)))))))) ∧ (((mHas (X (i) 35) (k)) = true) → ((0 ≤ k ∧ k < 15) ∧ ((oC X i ∧ 0 ≤ k ∧ k ≤ 14) ∧ (rI (mPar X i (k)) → ((0 ≤ (mPar X i (k)) ∧ (mPar X i (k)) < 15) ∧ ((rL ((Y (i + 14) (k)) - (Y (i + 14) (mPar X i (k))))) ∧ (((((Y (i + 14) (k)) - (Y (i + 14) (mPar X i (k)))) ≤ most) → (((((Y (i + 14) (k)) - (Y (i + 14) (mPar X i (k)))) ≤ most) → ((rI (k + 1)) ∧ (∃ q : Nat, k + 1 = q ∧ 1 ≤ q ∧ k + 1 ≤ X i 27 ∧ best = (stN (sdf X i) (rP X i) (rW X i) q).1 ∧ most = (stN (sdf X i) (rP X i) (rW X i) q).2 ∧ 0 ≤ most ∧ most ≤ 26575110144) ∧ (((X i 27 - (k + 1)).toNat) < ((X i 27 - (k)).toNat)))) ∧ ((¬ (((Y (i + 14) (k)) - (Y (i + 14) (mPar X i (k)))) ≤ most)) → ((rI (k + 1)) ∧ (∃ q : Nat, k + 1 = q ∧ 1 ≤ q ∧ k + 1 ≤ X i 27 ∧ best = (stN (sdf X i) (rP X i) (rW X i) q).1 ∧ (Y (i + 14) (k)) - (Y (i + 14) (mPar X i (k))) = (stN (sdf X i) (rP X i) (rW X i) q).2 ∧ 0 ≤ (Y (i + 14) (k)) - (Y (i + 14) (mPar X i (k))) ∧ (Y (i + 14) (k)) - (Y (i + 14) (mPar X i (k))) ≤ 26575110144) ∧ (((X i 27 - (k + 1)).toNat) < ((X i 27 - (k)).toNat)))))) ∧ ((¬ (((Y (i + 14) (k)) - (Y (i + 14) (mPar X i (k)))) ≤ most)) → (((((Y (i + 14) (k)) - (Y (i + 14) (mPar X i (k)))) ≤ most) → ((rI (k + 1)) ∧ (∃ q : Nat, k + 1 = q ∧ 1 ≤ q ∧ k + 1 ≤ X i 27 ∧ k = (stN (sdf X i) (rP X i) (rW X i) q).1 ∧ most = (stN (sdf X i) (rP X i) (rW X i) q).2 ∧ 0 ≤ most ∧ most ≤ 26575110144) ∧ (((X i 27 - (k + 1)).toNat) < ((X i 27 - (k)).toNat)))) ∧ ((¬ (((Y (i + 14) (k)) - (Y (i + 14) (mPar X i (k)))) ≤ most)) → ((rI (k + 1)) ∧ (∃ q : Nat, k + 1 = q ∧ 1 ≤ q ∧ k + 1 ≤ X i 27 ∧ k = (stN (sdf X i) (rP X i) (rW X i) q).1 ∧ (Y (i + 14) (k)) - (Y (i + 14) (mPar X i (k))) = (stN (sdf X i) (rP X i) (rW X i) q).2 ∧ 0 ≤ (Y (i + 14) (k)) - (Y (i + 14) (mPar X i (k))) ∧ (Y (i + 14) (k)) - (Y (i + 14) (mPar X i (k))) ≤ 26575110144) ∧ (((X i 27 - (k + 1)).toNat) < ((X i 27 - (k)).toNat)))))))))))))))))
set_option maxHeartbeats 4000000 in
set_option maxRecDepth 100000 in
theorem w_X11_steepest {l : Launch} {D : va_G} {cy : Nat → ClassId} {bs N : Nat} {sa : Nat → Nat} {kd len : Nat → Nat} {X Y : Nat → Int → Int} {R : Nat → Int → Option Nat} {i : Nat} (hM : zM N kd len R i)  (hF : F_X11_steepest i X Y R ) : Met l yX11_steepest (.code yX11_steepest cX11_steepest 7 (some .int) :: zTB) (zRm 2 43) (zPc D cy bs sa N kd len X Y R [.ref (bs + (i))]) (zQi D cy bs N kd len (fun r st => r = (stN (sdf X i) (rP X i) (rW X i) (X i 27).toNat).1 ∧ st = (X, Y, R))) 0 0 (zA bs) := by
  refine zstart (by decide) (Nat.le_of_ble_eq_true rfl) ?_
  intro p e s m args below meth c ls C hE hH hr hlk hnm hl hargs
  have hF := hF hH.2.2.1 hH.2.2.2
  have hS : va_S (zA bs) s.heap s.heap [] := va_S.rf
  have hl : lv_has ls 7 [(0, .ref (bs + (i)))] := hl
  refine zd_iconst C dX11_steepest_0 ?_
  refine lv_istore_n (lv' := [(1, .int (zI ((-1)))), (0, .ref (bs + (i)))]) C.1 C.2.1 dX11_steepest_1 rfl hl (by decide) rfl (fun ls hl => ?_)
  refine lv_lconst (v := zL 0) C.1 C.2.1 dX11_steepest_2 rfl ?_
  refine lv_lstore_n (lv' := [(2, .long (zL (0))), (1, .int (zI ((-1)))), (0, .ref (bs + (i)))]) C.1 C.2.1 dX11_steepest_3 rfl hl (by decide) rfl (fun ls hl => ?_)
  refine zd_iconst C dX11_steepest_4 ?_
  refine lv_istore (lv' := [(4, .int (zI (1))), (2, .long (zL (0))), (1, .int (zI ((-1)))), (0, .ref (bs + (i)))]) C.1 C.2.1 dX11_steepest_5 hl (by decide) rfl (fun ls hl => ?_)
  obtain ⟨hI1, hF⟩ := hF
  have L1 : ∀ (fu : Nat) (best : Int) (most : Int) (k : Int), rI best → rL most → rI k → (∃ q : Nat, k = q ∧ 1 ≤ q ∧ k ≤ X i 27 ∧ best = (stN (sdf X i) (rP X i) (rW X i) q).1 ∧ most = (stN (sdf X i) (rP X i) (rW X i) q).2 ∧ 0 ≤ most ∧ most ≤ 26575110144) → ((X i 27 - (k)).toNat) < fu → ∀ (H : Heap) (locs : List Loc) (ls : Array Slot), zH D cy bs N kd len X Y R H → va_S (zA bs) s.heap H locs → lv_has ls 7 [(1, .int (zI (best))), (2, .long (zL (most))), (4, .int (zI (k))), (0, .ref (bs + (i)))] → W p l e (zRm 2 43) s m args below meth c H locs 0 0 (MQ below (zQi D cy bs N kd len (fun r st => r = (stN (sdf X i) (rP X i) (rW X i) (X i 27).toNat).1 ∧ st = (X, Y, R))) args s 0 0 (zA bs)) (F0 m 7 ls []) := by
    intro fu
    induction fu with
    | zero => intro best most k _ _ _ _ hmu; exact absurd hmu (Nat.not_lt_zero _)
    | succ fu ih1 =>
      intro best most k hbest hmost hk hI hmu1 H locs ls hH hS hl
      have hF := hF best most k hbest hmost hk  hI
      refine lv_iload C.1 C.2.1 dX11_steepest_7 (lv_at hl 2 rfl) ?_
      refine lv_aload_n C.1 C.2.1 dX11_steepest_9 rfl (lv_at hl 3 rfl) ?_
      refine zg11_27 C hH (zM_n0 hM) (zM_k0 hM) q_1314 dX11_steepest_10 ?_
      refine zd_icmp_ge C hk (hH.2.2.1 _ _) 87 dX11_steepest_13 (by decide) (fun c2 => ?_) (fun c2 => ?_)
      · have hF := hF.1 c2
        refine lv_iload_n C.1 C.2.1 dX11_steepest_87 rfl (lv_at hl 0 rfl) ?_
        exact zd_iret C hr hlk hH hS hbest (⟨hF, rfl⟩) dX11_steepest_88
      · have hF := hF.2 c2
        refine lv_aload_n C.1 C.2.1 dX11_steepest_16 rfl (lv_at hl 3 rfl) ?_
        refine zg11_35 C hH (zM_n0 hM) (zM_k0 hM) q_1322 dX11_steepest_17 ?_
        refine lv_iload C.1 C.2.1 dX11_steepest_20 (lv_at hl 2 rfl) ?_
        refine zgoi (zrunS (As := [.int (zI (X (i) 35)), .int (zI (k))]) (rest := []) C hE hH hS hl.1 (c_X11_has (l := l)  (X (i) 35) (hH.2.2.1 _ _) (k) hk) k_RX11_92 ⟨Nat.le_of_ble_eq_true rfl, Nat.le_of_ble_eq_true rfl⟩ rfl (Nat.le_of_ble_eq_true rfl) dX11_steepest_22 ⟨Nat.zero_le _, Nat.zero_le _⟩) hS (fun rq Xq Yq Rq H locs hrq hq hH hS => ?_)
        obtain ⟨h91, h92⟩ := hq
        have h93 : Xq = X := congrArg (fun z => z.1) h92
        have h94 : Yq = Y := congrArg (fun z => z.2.1) h92
        have h95 : Rq = R := congrArg (fun z => z.2.2) h92
        rw [h93, h94, h95] at hH
        subst h91
        refine zd_ifB_eq C 50 dX11_steepest_25 (by decide) (fun c3 => ?_) (fun c3 => ?_)
        · have hF := hF.1 c3
          refine lv_lconst (v := zL 0) C.1 C.2.1 dX11_steepest_50 rfl ?_
          refine lv_lstore (lv' := [(5, .long (zL (0))), (1, .int (zI (best))), (2, .long (zL (most))), (4, .int (zI (k))), (0, .ref (bs + (i)))]) C.1 C.2.1 dX11_steepest_51 hl (by decide) rfl (fun ls hl => ?_)
          refine lv_lload C.1 C.2.1 dX11_steepest_53 (lv_at hl 0 rfl) ?_
          refine lv_lload_n C.1 C.2.1 dX11_steepest_55 rfl (lv_at hl 2 rfl) ?_
          refine zd_lcmp C (by decide) hmost dX11_steepest_56 ?_
          refine zd_ifL_le C 65 dX11_steepest_57 (by decide) (fun c4 => ?_) (fun c4 => ?_)
          · have hF := hF.1 c4
            refine lv_iload_n C.1 C.2.1 dX11_steepest_65 rfl (lv_at hl 1 rfl) ?_
            refine lv_istore_n (lv' := [(1, .int (zI (best))), (5, .long (zL (0))), (2, .long (zL (most))), (4, .int (zI (k))), (0, .ref (bs + (i)))]) C.1 C.2.1 dX11_steepest_66 rfl hl (by decide) rfl (fun ls hl => ?_)
            refine lv_lload C.1 C.2.1 dX11_steepest_67 (lv_at hl 1 rfl) ?_
            refine lv_lload_n C.1 C.2.1 dX11_steepest_69 rfl (lv_at hl 2 rfl) ?_
            refine zd_lcmp C (by decide) hmost dX11_steepest_70 ?_
            refine zd_ifL_le C 79 dX11_steepest_71 (by decide) (fun c5 => ?_) (fun c5 => ?_)
            · have hF := hF.1 c5
              refine lv_lload_n C.1 C.2.1 dX11_steepest_79 rfl (lv_at hl 2 rfl) ?_
              refine lv_lstore_n (lv' := [(2, .long (zL (most))), (1, .int (zI (best))), (5, .long (zL (0))), (4, .int (zI (k))), (0, .ref (bs + (i)))]) C.1 C.2.1 dX11_steepest_80 rfl hl (by decide) rfl (fun ls hl => ?_)
              refine zd_iinc (k := 3) (lv' := [(4, .int (zI (k + 1))), (2, .long (zL (most))), (1, .int (zI (best))), (5, .long (zL (0))), (0, .ref (bs + (i)))]) C hl rfl dX11_steepest_81 (by decide) rfl (fun ls hl => ?_)
              refine lv_goto (tgt := 7) C.1 C.2.1 dX11_steepest_84 (by decide) ?_
              obtain ⟨o6, hF⟩ := hF
              exact ih1 (best) (most) (k + 1) hbest hmost o6 hF.1 (Nat.lt_of_lt_of_le hF.2 (Nat.le_of_lt_succ hmu1)) _ _ _ hH hS (lv_sub hl [2, 1, 0, 4] rfl)
            · have hF := hF.2 c5
              refine lv_lload C.1 C.2.1 dX11_steepest_74 (lv_at hl 1 rfl) ?_
              refine lv_goto (tgt := 80) C.1 C.2.1 dX11_steepest_76 (by decide) ?_
              refine lv_lstore_n (lv' := [(2, .long (zL (0))), (1, .int (zI (best))), (5, .long (zL (0))), (4, .int (zI (k))), (0, .ref (bs + (i)))]) C.1 C.2.1 dX11_steepest_80 rfl hl (by decide) rfl (fun ls hl => ?_)
              refine zd_iinc (k := 3) (lv' := [(4, .int (zI (k + 1))), (2, .long (zL (0))), (1, .int (zI (best))), (5, .long (zL (0))), (0, .ref (bs + (i)))]) C hl rfl dX11_steepest_81 (by decide) rfl (fun ls hl => ?_)
              refine lv_goto (tgt := 7) C.1 C.2.1 dX11_steepest_84 (by decide) ?_
              obtain ⟨o7, hF⟩ := hF
              exact ih1 (best) ((0 : Int)) (k + 1) hbest (by decide) o7 hF.1 (Nat.lt_of_lt_of_le hF.2 (Nat.le_of_lt_succ hmu1)) _ _ _ hH hS (lv_sub hl [2, 1, 0, 4] rfl)
          · have hF := hF.2 c4
            refine lv_iload C.1 C.2.1 dX11_steepest_60 (lv_at hl 3 rfl) ?_
            refine lv_goto (tgt := 66) C.1 C.2.1 dX11_steepest_62 (by decide) ?_
            refine lv_istore_n (lv' := [(1, .int (zI (k))), (5, .long (zL (0))), (2, .long (zL (most))), (4, .int (zI (k))), (0, .ref (bs + (i)))]) C.1 C.2.1 dX11_steepest_66 rfl hl (by decide) rfl (fun ls hl => ?_)
            refine lv_lload C.1 C.2.1 dX11_steepest_67 (lv_at hl 1 rfl) ?_
            refine lv_lload_n C.1 C.2.1 dX11_steepest_69 rfl (lv_at hl 2 rfl) ?_
            refine zd_lcmp C (by decide) hmost dX11_steepest_70 ?_
            refine zd_ifL_le C 79 dX11_steepest_71 (by decide) (fun c8 => ?_) (fun c8 => ?_)
            · have hF := hF.1 c8
              refine lv_lload_n C.1 C.2.1 dX11_steepest_79 rfl (lv_at hl 2 rfl) ?_
              refine lv_lstore_n (lv' := [(2, .long (zL (most))), (1, .int (zI (k))), (5, .long (zL (0))), (4, .int (zI (k))), (0, .ref (bs + (i)))]) C.1 C.2.1 dX11_steepest_80 rfl hl (by decide) rfl (fun ls hl => ?_)
              refine zd_iinc (k := 3) (lv' := [(4, .int (zI (k + 1))), (2, .long (zL (most))), (1, .int (zI (k))), (5, .long (zL (0))), (0, .ref (bs + (i)))]) C hl rfl dX11_steepest_81 (by decide) rfl (fun ls hl => ?_)
              refine lv_goto (tgt := 7) C.1 C.2.1 dX11_steepest_84 (by decide) ?_
              obtain ⟨o9, hF⟩ := hF
              exact ih1 (k) (most) (k + 1) hk hmost o9 hF.1 (Nat.lt_of_lt_of_le hF.2 (Nat.le_of_lt_succ hmu1)) _ _ _ hH hS (lv_sub hl [2, 1, 0, 4] rfl)
            · have hF := hF.2 c8
              refine lv_lload C.1 C.2.1 dX11_steepest_74 (lv_at hl 1 rfl) ?_
              refine lv_goto (tgt := 80) C.1 C.2.1 dX11_steepest_76 (by decide) ?_
              refine lv_lstore_n (lv' := [(2, .long (zL (0))), (1, .int (zI (k))), (5, .long (zL (0))), (4, .int (zI (k))), (0, .ref (bs + (i)))]) C.1 C.2.1 dX11_steepest_80 rfl hl (by decide) rfl (fun ls hl => ?_)
              refine zd_iinc (k := 3) (lv' := [(4, .int (zI (k + 1))), (2, .long (zL (0))), (1, .int (zI (k))), (5, .long (zL (0))), (0, .ref (bs + (i)))]) C hl rfl dX11_steepest_81 (by decide) rfl (fun ls hl => ?_)
              refine lv_goto (tgt := 7) C.1 C.2.1 dX11_steepest_84 (by decide) ?_
              obtain ⟨o10, hF⟩ := hF
              exact ih1 (k) ((0 : Int)) (k + 1) hk (by decide) o10 hF.1 (Nat.lt_of_lt_of_le hF.2 (Nat.le_of_lt_succ hmu1)) _ _ _ hH hS (lv_sub hl [2, 1, 0, 4] rfl)
        · have hF := hF.2 c3
          refine lv_aload_n C.1 C.2.1 dX11_steepest_28 rfl (lv_at hl 3 rfl) ?_
          refine zg11_32 C hH (zM_n0 hM) (zM_k0 hM) q_1319 (zM_r14 hM) dX11_steepest_29 ?_
          refine lv_iload C.1 C.2.1 dX11_steepest_32 (lv_at hl 2 rfl) ?_
          obtain ⟨o11, hF⟩ := hF
          refine zd_lald C hH (zM_n14 hM) (zM_k14 hM) o11.1 (by rw [zM_l14 hM]; exact o11.2) (by rw [zM_l14 hM]; decide) dX11_steepest_34 ?_
          refine lv_aload_n C.1 C.2.1 dX11_steepest_35 rfl (lv_at hl 3 rfl) ?_
          refine zg11_32 C hH (zM_n0 hM) (zM_k0 hM) q_1319 (zM_r14 hM) dX11_steepest_36 ?_
          refine lv_aload_n C.1 C.2.1 dX11_steepest_39 rfl (lv_at hl 3 rfl) ?_
          refine lv_iload C.1 C.2.1 dX11_steepest_40 (lv_at hl 2 rfl) ?_
          obtain ⟨o12, hF⟩ := hF
          refine zgoi (zrunV (As := [.int (zI (k))]) (rest := [.ref (bs + (i + 14)), .long (zL (Y (i + 14) (k)))]) C hE hH hS hl.1 (c_X11_parentOf (l := l) hM (k) hk o12) k_RX11_264 ⟨Nat.le_of_ble_eq_true rfl, Nat.le_of_ble_eq_true rfl⟩ (zM_n0 hM) (zM_k0 hM) rfl rfl rfl (Nat.le_of_ble_eq_true rfl) dX11_steepest_42 ⟨Nat.zero_le _, Nat.zero_le _⟩) hS (fun rq Xq Yq Rq H locs hrq hq hH hS => ?_)
          obtain ⟨h91, h92⟩ := hq
          have h93 : Xq = X := congrArg (fun z => z.1) h92
          have h94 : Yq = Y := congrArg (fun z => z.2.1) h92
          have h95 : Rq = R := congrArg (fun z => z.2.2) h92
          rw [h93, h94, h95] at hH
          subst h91
          have hr13 := hrq
          have hF := hF hr13
          obtain ⟨o14, hF⟩ := hF
          refine zd_lald C hH (zM_n14 hM) (zM_k14 hM) o14.1 (by rw [zM_l14 hM]; exact o14.2) (by rw [zM_l14 hM]; decide) dX11_steepest_45 ?_
          refine zd_lsub C dX11_steepest_46 ?_
          refine lv_goto (tgt := 51) C.1 C.2.1 dX11_steepest_47 (by decide) ?_
          refine lv_lstore (lv' := [(5, .long (zL ((Y (i + 14) (k)) - (Y (i + 14) (mPar X i (k)))))), (1, .int (zI (best))), (2, .long (zL (most))), (4, .int (zI (k))), (0, .ref (bs + (i)))]) C.1 C.2.1 dX11_steepest_51 hl (by decide) rfl (fun ls hl => ?_)
          refine lv_lload C.1 C.2.1 dX11_steepest_53 (lv_at hl 0 rfl) ?_
          refine lv_lload_n C.1 C.2.1 dX11_steepest_55 rfl (lv_at hl 2 rfl) ?_
          obtain ⟨o15, hF⟩ := hF
          refine zd_lcmp C o15 hmost dX11_steepest_56 ?_
          refine zd_ifL_le C 65 dX11_steepest_57 (by decide) (fun c16 => ?_) (fun c16 => ?_)
          · have hF := hF.1 c16
            refine lv_iload_n C.1 C.2.1 dX11_steepest_65 rfl (lv_at hl 1 rfl) ?_
            refine lv_istore_n (lv' := [(1, .int (zI (best))), (5, .long (zL ((Y (i + 14) (k)) - (Y (i + 14) (mPar X i (k)))))), (2, .long (zL (most))), (4, .int (zI (k))), (0, .ref (bs + (i)))]) C.1 C.2.1 dX11_steepest_66 rfl hl (by decide) rfl (fun ls hl => ?_)
            refine lv_lload C.1 C.2.1 dX11_steepest_67 (lv_at hl 1 rfl) ?_
            refine lv_lload_n C.1 C.2.1 dX11_steepest_69 rfl (lv_at hl 2 rfl) ?_
            refine zd_lcmp C o15 hmost dX11_steepest_70 ?_
            refine zd_ifL_le C 79 dX11_steepest_71 (by decide) (fun c17 => ?_) (fun c17 => ?_)
            · have hF := hF.1 c17
              refine lv_lload_n C.1 C.2.1 dX11_steepest_79 rfl (lv_at hl 2 rfl) ?_
              refine lv_lstore_n (lv' := [(2, .long (zL (most))), (1, .int (zI (best))), (5, .long (zL ((Y (i + 14) (k)) - (Y (i + 14) (mPar X i (k)))))), (4, .int (zI (k))), (0, .ref (bs + (i)))]) C.1 C.2.1 dX11_steepest_80 rfl hl (by decide) rfl (fun ls hl => ?_)
              refine zd_iinc (k := 3) (lv' := [(4, .int (zI (k + 1))), (2, .long (zL (most))), (1, .int (zI (best))), (5, .long (zL ((Y (i + 14) (k)) - (Y (i + 14) (mPar X i (k)))))), (0, .ref (bs + (i)))]) C hl rfl dX11_steepest_81 (by decide) rfl (fun ls hl => ?_)
              refine lv_goto (tgt := 7) C.1 C.2.1 dX11_steepest_84 (by decide) ?_
              obtain ⟨o18, hF⟩ := hF
              exact ih1 (best) (most) (k + 1) hbest hmost o18 hF.1 (Nat.lt_of_lt_of_le hF.2 (Nat.le_of_lt_succ hmu1)) _ _ _ hH hS (lv_sub hl [2, 1, 0, 4] rfl)
            · have hF := hF.2 c17
              refine lv_lload C.1 C.2.1 dX11_steepest_74 (lv_at hl 1 rfl) ?_
              refine lv_goto (tgt := 80) C.1 C.2.1 dX11_steepest_76 (by decide) ?_
              refine lv_lstore_n (lv' := [(2, .long (zL ((Y (i + 14) (k)) - (Y (i + 14) (mPar X i (k)))))), (1, .int (zI (best))), (5, .long (zL ((Y (i + 14) (k)) - (Y (i + 14) (mPar X i (k)))))), (4, .int (zI (k))), (0, .ref (bs + (i)))]) C.1 C.2.1 dX11_steepest_80 rfl hl (by decide) rfl (fun ls hl => ?_)
              refine zd_iinc (k := 3) (lv' := [(4, .int (zI (k + 1))), (2, .long (zL ((Y (i + 14) (k)) - (Y (i + 14) (mPar X i (k)))))), (1, .int (zI (best))), (5, .long (zL ((Y (i + 14) (k)) - (Y (i + 14) (mPar X i (k)))))), (0, .ref (bs + (i)))]) C hl rfl dX11_steepest_81 (by decide) rfl (fun ls hl => ?_)
              refine lv_goto (tgt := 7) C.1 C.2.1 dX11_steepest_84 (by decide) ?_
              obtain ⟨o19, hF⟩ := hF
              exact ih1 (best) ((Y (i + 14) (k)) - (Y (i + 14) (mPar X i (k)))) (k + 1) hbest o15 o19 hF.1 (Nat.lt_of_lt_of_le hF.2 (Nat.le_of_lt_succ hmu1)) _ _ _ hH hS (lv_sub hl [2, 1, 0, 4] rfl)
          · have hF := hF.2 c16
            refine lv_iload C.1 C.2.1 dX11_steepest_60 (lv_at hl 3 rfl) ?_
            refine lv_goto (tgt := 66) C.1 C.2.1 dX11_steepest_62 (by decide) ?_
            refine lv_istore_n (lv' := [(1, .int (zI (k))), (5, .long (zL ((Y (i + 14) (k)) - (Y (i + 14) (mPar X i (k)))))), (2, .long (zL (most))), (4, .int (zI (k))), (0, .ref (bs + (i)))]) C.1 C.2.1 dX11_steepest_66 rfl hl (by decide) rfl (fun ls hl => ?_)
            refine lv_lload C.1 C.2.1 dX11_steepest_67 (lv_at hl 1 rfl) ?_
            refine lv_lload_n C.1 C.2.1 dX11_steepest_69 rfl (lv_at hl 2 rfl) ?_
            refine zd_lcmp C o15 hmost dX11_steepest_70 ?_
            refine zd_ifL_le C 79 dX11_steepest_71 (by decide) (fun c20 => ?_) (fun c20 => ?_)
            · have hF := hF.1 c20
              refine lv_lload_n C.1 C.2.1 dX11_steepest_79 rfl (lv_at hl 2 rfl) ?_
              refine lv_lstore_n (lv' := [(2, .long (zL (most))), (1, .int (zI (k))), (5, .long (zL ((Y (i + 14) (k)) - (Y (i + 14) (mPar X i (k)))))), (4, .int (zI (k))), (0, .ref (bs + (i)))]) C.1 C.2.1 dX11_steepest_80 rfl hl (by decide) rfl (fun ls hl => ?_)
              refine zd_iinc (k := 3) (lv' := [(4, .int (zI (k + 1))), (2, .long (zL (most))), (1, .int (zI (k))), (5, .long (zL ((Y (i + 14) (k)) - (Y (i + 14) (mPar X i (k)))))), (0, .ref (bs + (i)))]) C hl rfl dX11_steepest_81 (by decide) rfl (fun ls hl => ?_)
              refine lv_goto (tgt := 7) C.1 C.2.1 dX11_steepest_84 (by decide) ?_
              obtain ⟨o21, hF⟩ := hF
              exact ih1 (k) (most) (k + 1) hk hmost o21 hF.1 (Nat.lt_of_lt_of_le hF.2 (Nat.le_of_lt_succ hmu1)) _ _ _ hH hS (lv_sub hl [2, 1, 0, 4] rfl)
            · have hF := hF.2 c20
              refine lv_lload C.1 C.2.1 dX11_steepest_74 (lv_at hl 1 rfl) ?_
              refine lv_goto (tgt := 80) C.1 C.2.1 dX11_steepest_76 (by decide) ?_
              refine lv_lstore_n (lv' := [(2, .long (zL ((Y (i + 14) (k)) - (Y (i + 14) (mPar X i (k)))))), (1, .int (zI (k))), (5, .long (zL ((Y (i + 14) (k)) - (Y (i + 14) (mPar X i (k)))))), (4, .int (zI (k))), (0, .ref (bs + (i)))]) C.1 C.2.1 dX11_steepest_80 rfl hl (by decide) rfl (fun ls hl => ?_)
              refine zd_iinc (k := 3) (lv' := [(4, .int (zI (k + 1))), (2, .long (zL ((Y (i + 14) (k)) - (Y (i + 14) (mPar X i (k)))))), (1, .int (zI (k))), (5, .long (zL ((Y (i + 14) (k)) - (Y (i + 14) (mPar X i (k)))))), (0, .ref (bs + (i)))]) C hl rfl dX11_steepest_81 (by decide) rfl (fun ls hl => ?_)
              refine lv_goto (tgt := 7) C.1 C.2.1 dX11_steepest_84 (by decide) ?_
              obtain ⟨o22, hF⟩ := hF
              exact ih1 (k) ((Y (i + 14) (k)) - (Y (i + 14) (mPar X i (k)))) (k + 1) hk o15 o22 hF.1 (Nat.lt_of_lt_of_le hF.2 (Nat.le_of_lt_succ hmu1)) _ _ _ hH hS (lv_sub hl [2, 1, 0, 4] rfl)
  exact L1 (((X i 27 - ((1 : Int))).toNat) + 1) ((-1 : Int)) ((0 : Int)) ((1 : Int)) (by decide) (by decide) (by decide) hI1 (Nat.lt_succ_self _) _ _ _ hH hS (lv_sub hl [2, 1, 0, 3] rfl)
theorem v_X11_steepest {X Y : Nat → Int → Int} {R : Nat → Int → Option Nat} {i : Nat}  (hp : oH X Y i) : F_X11_steepest i X Y R  := by
  unfold F_X11_steepest
  intro hX hY
  have h := hp
  have h27 := h.1.2.2.1
  have hbs := h.1.2.2.2
  have h35 := h.2.2.2.1
  have hl := h.2.2.1
  have sd : ∀ q : Nat, (q : Int) < X i 27 → mHas (X i 35) q = sdf X i q := fun q hq => by
    rw [h35]
    exact bS_has _ (by omega) (by omega)
  have ep : ∀ q : Nat, 1 ≤ q → (q : Int) < X i 27 → mPar X i q = rP X i q := fun q h1 h2 => rP_c hbs.1 h1 (by omega)
  have pb : ∀ q : Nat, 1 ≤ q → (q : Int) < X i 27 → rP X i q < q := fun q h1 h2 => rP_par hbs.1 q h1 (by omega)
  have hW := (oH_W h).2.2
  refine ⟨⟨1, rfl, by decide, by omega, rfl, rfl, by decide, by decide⟩, fun best most k br mr kr hI => ?_⟩
  obtain ⟨q, hq, q1, q2, hb, hm, m0, m1⟩ := hI
  subst hq
  refine ⟨fun c => by rw [hb, show (X i 27).toNat = q by omega], fun c => ?_⟩
  have o1 : decide (1 ≤ q) = true := decide_eq_true q1
  have pq := pb q q1 (by omega)
  have st : stN (sdf X i) (rP X i) (rW X i) (q + 1) = if decide (1 ≤ q) && (sdf X i q && decide ((stN (sdf X i) (rP X i) (rW X i) q).2 < rW X i q - rW X i (rP X i q))) then ((q : Int), rW X i q - rW X i (rP X i q)) else stN (sdf X i) (rP X i) (rW X i) q := rfl
  rw [← hm, o1] at st
  have w1 := hW q (by omega)
  have w2 := hW (rP X i q) (by omega)
  rw [(hl q (by omega)).2.1] at w1
  rw [(hl (rP X i q) (by omega)).2.1] at w2
  rw [sd q (by omega), ep q q1 (by omega), (hl q (by omega)).2.1, (hl (rP X i q) (by omega)).2.1]
  have no : (sdf X i q && decide (most < rW X i q - rW X i (rP X i q))) = false → (rI ((q : Int) + 1)) ∧ (∃ y : Nat, (q : Int) + 1 = y ∧ 1 ≤ y ∧ (q : Int) + 1 ≤ X i 27 ∧ best = (stN (sdf X i) (rP X i) (rW X i) y).1 ∧ most = (stN (sdf X i) (rP X i) (rW X i) y).2 ∧ 0 ≤ most ∧ most ≤ 26575110144) ∧ ((X i 27 - ((q : Int) + 1)).toNat < (X i 27 - q).toNat) := fun g => by
    refine ⟨⟨by omega, by omega⟩, ⟨q + 1, by omega, by omega, by omega, ?_, ?_, m0, m1⟩, by omega⟩
    · rw [st, g]
      exact hb
    · rw [st, g]
      exact hm
  refine ⟨fun c1 => ⟨fun _ => ⟨fun _ => no (by rw [c1, Bool.false_and]), fun g => absurd m0 g⟩, fun g => absurd m0 g⟩, fun c1 => ⟨⟨by omega, by omega⟩, ⟨hbs.1.1, by omega, by omega⟩, fun _ => ⟨⟨by omega, by omega⟩, ⟨by omega, by omega⟩, fun c2 => ⟨fun _ => no (by rw [decide_eq_false (by omega), Bool.and_false]), fun g => absurd c2 g⟩, fun c2 => ⟨fun g => absurd g c2, fun _ => ⟨⟨by omega, by omega⟩, ⟨q + 1, by omega, by omega, by omega, ?_, ?_, by omega, by omega⟩, by omega⟩⟩⟩⟩⟩
  · rw [st, c1, decide_eq_true (by omega)]
    rfl
  · rw [st, c1, decide_eq_true (by omega)]
    rfl
theorem c_X11_steepest {l : Launch} {D : va_G} {cy : Nat → ClassId} {bs N : Nat} {sa : Nat → Nat} {kd len : Nat → Nat} {X Y : Nat → Int → Int} {R : Nat → Int → Option Nat} {i : Nat} (hM : zM N kd len R i)  (hp : oH X Y i) : Met l yX11_steepest (.code yX11_steepest cX11_steepest 7 (some .int) :: zTB) (zRm 2 43) (zPc D cy bs sa N kd len X Y R [.ref (bs + (i))]) (zQi D cy bs N kd len (fun r st => r = (stN (sdf X i) (rP X i) (rW X i) (X i 27).toNat).1 ∧ st = (X, Y, R))) 0 0 (zA bs) := w_X11_steepest hM  (v_X11_steepest  hp)
abbrev cX11_flip : ByteArray := prog_13_method_122_code
def yX11_flip : MethodName := ⟨RX11, "flip", "()I"⟩
theorem dX11_flip_0 : decode cX11_flip 0 = .ok (.aload_n 0, 1) := by decide +kernel
theorem dX11_flip_1 : decode cX11_flip 1 = .ok (.iconst 0, 1) := by decide +kernel
theorem dX11_flip_2 : decode cX11_flip 2 = .ok (.invokevirtual 420, 3) := by decide +kernel
theorem dX11_flip_5 : decode cX11_flip 5 = .ok (.istore_n 1, 1) := by decide +kernel
theorem dX11_flip_6 : decode cX11_flip 6 = .ok (.aload_n 0, 1) := by decide +kernel
theorem dX11_flip_7 : decode cX11_flip 7 = .ok (.iconst 1, 1) := by decide +kernel
theorem dX11_flip_8 : decode cX11_flip 8 = .ok (.aload_n 0, 1) := by decide +kernel
theorem dX11_flip_9 : decode cX11_flip 9 = .ok (.getfield 307, 3) := by decide +kernel
theorem dX11_flip_12 : decode cX11_flip 12 = .ok (.isub, 1) := by decide +kernel
theorem dX11_flip_13 : decode cX11_flip 13 = .ok (.putfield 307, 3) := by decide +kernel
theorem dX11_flip_16 : decode cX11_flip 16 = .ok (.aload_n 0, 1) := by decide +kernel
theorem dX11_flip_17 : decode cX11_flip 17 = .ok (.iconst 0, 1) := by decide +kernel
theorem dX11_flip_18 : decode cX11_flip 18 = .ok (.invokevirtual 420, 3) := by decide +kernel
theorem dX11_flip_21 : decode cX11_flip 21 = .ok (.iload_n 1, 1) := by decide +kernel
theorem dX11_flip_22 : decode cX11_flip 22 = .ok (.if_icmp .ne 7, 3) := by decide +kernel
theorem dX11_flip_25 : decode cX11_flip 25 = .ok (.iconst 0, 1) := by decide +kernel
theorem dX11_flip_26 : decode cX11_flip 26 = .ok (.goto 4, 3) := by decide +kernel
theorem dX11_flip_29 : decode cX11_flip 29 = .ok (.iconst 1, 1) := by decide +kernel
theorem dX11_flip_30 : decode cX11_flip 30 = .ok (.ireturn, 1) := by decide +kernel
theorem q_1792 : Cond.methodLink RX11 420 yX11_tipWithout ∈ zTB := zmem 1792 (by decide +kernel) rfl
theorem q_1794 : Cond.instanceMethod yX11_tipWithout ∈ zTB := zmem 1794 (by decide +kernel) rfl
theorem q_91 : Cond.selects RX11 yX11_tipWithout yX11_tipWithout ∈ zTB := zmem 91 (by decide +kernel) rfl
theorem q_1795 : Cond.code yX11_tipWithout cX11_tipWithout 3 (some .int) ∈ zTB := zmem 1795 (by decide +kernel) rfl
theorem k_RX11_420 : zLv RX11 420 RX11 yX11_tipWithout cX11_tipWithout 3 (some .int) 1 := ⟨⟨q_1792, q_1794, q_91, q_140, q_1795⟩, rfl, ⟨by decide, by decide⟩, by decide +kernel⟩
def F_X11_flip (i : Nat) (X Y : Nat → Int → Int) (R : Nat → Int → Option Nat)  : Prop := (∀ i j, rI (X i j)) → (∀ i j, rL (Y i j)) → (oH X Y i) ∧ (∀ r4 : Int, rI r4 → ∀ X2 : Nat → Int → Int, (∀ i j, rI (X2 i j)) → ∀ Y3 : Nat → Int → Int, (∀ i j, rL (Y3 i j)) → (r4 = ((rTip X i (mWo X i ((0 : Int))) : Nat) : Int) ∧ tW X (X2) i ∧ wK (X2) i (mWo X i ((0 : Int))) (X i 27).toNat ∧ ∀ a, a ≠ i + 18 → (Y3) a = Y a) → ((rI (1 - (X2 (i) 28))) ∧ (∀ X6 : Nat → Int → Int, X6 = zU X2 (i) 28 (1 - (X2 (i) 28)) → (∀ i j, rI (X6 i j)) → ((oH X6 Y3 i) ∧ (∀ r10 : Int, rI r10 → ∀ X8 : Nat → Int → Int, (∀ i j, rI (X8 i j)) → ∀ Y9 : Nat → Int → Int, (∀ i j, rL (Y9 i j)) → (r10 = ((rTip X6 i (mWo X6 i ((0 : Int))) : Nat) : Int) ∧ tW X6 (X8) i ∧ wK (X8) i (mWo X6 i ((0 : Int))) (X6 i 27).toNat ∧ ∀ a, a ≠ i + 18 → (Y9) a = Y3 a) → (((¬ r10 = r4) → (1 = (if flTip X i (1 - X i 28) = flTip X i (X i 28) then (0 : Int) else 1) ∧ fK X (X8) Y (Y9) i)) ∧ ((¬ (¬ r10 = r4)) → (0 = (if flTip X i (1 - X i 28) = flTip X i (X i 28) then (0 : Int) else 1) ∧ fK X (X8) Y (Y9) i))))))))
set_option maxHeartbeats 4000000 in
set_option maxRecDepth 100000 in
theorem w_X11_flip {l : Launch} {D : va_G} {cy : Nat → ClassId} {bs N : Nat} {sa : Nat → Nat} {kd len : Nat → Nat} {X Y : Nat → Int → Int} {R : Nat → Int → Option Nat} {i : Nat} (hM : zM N kd len R i)  (hF : F_X11_flip i X Y R ) : Met l yX11_flip (.code yX11_flip cX11_flip 2 (some .int) :: zTB) (zRm 5 111) (zPc D cy bs sa N kd len X Y R [.ref (bs + (i))]) (zQi D cy bs N kd len (fun r st => st.2.2 = R ∧ (r = (if flTip X i (1 - X i 28) = flTip X i (X i 28) then (0 : Int) else 1) ∧ fK X (st.1) Y (st.2.1) i))) 0 0 (zA bs) := by
  refine zstart (by decide) (Nat.le_of_ble_eq_true rfl) ?_
  intro p e s m args below meth c ls C hE hH hr hlk hnm hl hargs
  have hF := hF hH.2.2.1 hH.2.2.2
  have hS : va_S (zA bs) s.heap s.heap [] := va_S.rf
  have hl : lv_has ls 2 [(0, .ref (bs + (i)))] := hl
  refine lv_aload_n C.1 C.2.1 dX11_flip_0 rfl (lv_at hl 0 rfl) ?_
  refine zd_iconst C dX11_flip_1 ?_
  obtain ⟨o1, hF⟩ := hF
  refine zgoi (zrunV (As := [.int (zI (0))]) (rest := []) C hE hH hS hl.1 (c_X11_tipWithout (l := l) hM (0) (by decide) o1) k_RX11_420 ⟨Nat.le_of_ble_eq_true rfl, Nat.le_of_ble_eq_true rfl⟩ (zM_n0 hM) (zM_k0 hM) rfl rfl rfl (Nat.le_of_ble_eq_true rfl) dX11_flip_2 ⟨Nat.zero_le _, Nat.zero_le _⟩) hS (fun r4 X2 Y3 Rq H locs hrq hq hH hS => ?_)
  obtain ⟨h9R, hq⟩ := hq
  dsimp only at h9R
  rw [h9R] at hH
  have hr4 := hrq
  have hF := hF r4 hrq X2 hH.2.2.1 Y3 hH.2.2.2 hq
  refine lv_istore_n (lv' := [(1, .int (zI (r4))), (0, .ref (bs + (i)))]) C.1 C.2.1 dX11_flip_5 rfl hl (by decide) rfl (fun ls hl => ?_)
  refine lv_aload_n C.1 C.2.1 dX11_flip_6 rfl (lv_at hl 1 rfl) ?_
  refine zd_iconst C dX11_flip_7 ?_
  refine lv_aload_n C.1 C.2.1 dX11_flip_8 rfl (lv_at hl 1 rfl) ?_
  refine zg11_28 C hH (zM_n0 hM) (zM_k0 hM) q_1315 dX11_flip_9 ?_
  refine zd_isub C dX11_flip_12 ?_
  obtain ⟨o5, hF⟩ := hF
  refine zp11_28 C hH hS (zM_n0 hM) (zM_k0 hM) q_1315 o5 dX11_flip_13 (fun H locs hH hS => ?_)
  obtain ⟨X6, eX6⟩ : ∃ z, z = zU X2 (i) 28 (1 - (X2 (i) 28)) := ⟨_, rfl⟩
  rw [← eX6] at hH
  have hF := hF X6 eX6 hH.2.2.1
  refine lv_aload_n C.1 C.2.1 dX11_flip_16 rfl (lv_at hl 1 rfl) ?_
  refine zd_iconst C dX11_flip_17 ?_
  obtain ⟨o7, hF⟩ := hF
  refine zgoi (zrunV (As := [.int (zI (0))]) (rest := []) C hE hH hS hl.1 (c_X11_tipWithout (l := l) hM (0) (by decide) o7) k_RX11_420 ⟨Nat.le_of_ble_eq_true rfl, Nat.le_of_ble_eq_true rfl⟩ (zM_n0 hM) (zM_k0 hM) rfl rfl rfl (Nat.le_of_ble_eq_true rfl) dX11_flip_18 ⟨Nat.zero_le _, Nat.zero_le _⟩) hS (fun r10 X8 Y9 Rq H locs hrq hq hH hS => ?_)
  obtain ⟨h9R, hq⟩ := hq
  dsimp only at h9R
  rw [h9R] at hH
  have hr10 := hrq
  have hF := hF r10 hrq X8 hH.2.2.1 Y9 hH.2.2.2 hq
  refine lv_iload_n C.1 C.2.1 dX11_flip_21 rfl (lv_at hl 0 rfl) ?_
  refine zd_icmp_ne C hr10 hr4 29 dX11_flip_22 (by decide) (fun c11 => ?_) (fun c11 => ?_)
  · have hF := hF.1 c11
    refine zd_iconst C dX11_flip_29 ?_
    exact zd_iret C hr hlk hH hS (by decide) (⟨rfl, hF⟩) dX11_flip_30
  · have hF := hF.2 c11
    refine zd_iconst C dX11_flip_25 ?_
    refine lv_goto (tgt := 30) C.1 C.2.1 dX11_flip_26 (by decide) ?_
    exact zd_iret C hr hlk hH hS (by decide) (⟨rfl, hF⟩) dX11_flip_30
theorem v_X11_flip {X Y : Nat → Int → Int} {R : Nat → Int → Option Nat} {i : Nat}  (hp : oH X Y i) : F_X11_flip i X Y R  := by
  unfold F_X11_flip
  intro hX hY
  have h := hp
  refine ⟨h, fun r4 _ X2 x2r Y3 y3r h2 => ?_⟩
  obtain ⟨e4, t2, -, y2⟩ := h2
  have f2 : fK X X2 Y Y3 i := ⟨t2.1, fun s hs => t2.2 s (by omega) (by omega), y2⟩
  have s28 : X2 i 28 = X i 28 := t2.2 28 (by decide) (by decide)
  have h28 := h.2.1.1
  rw [s28]
  refine ⟨⟨by omega, by omega⟩, fun X6 e6 x6r => ?_⟩
  have f6 : fK X X6 Y Y3 i := by
    refine f2.tr ?_
    rw [e6]
    exact ⟨fun a h1 _ => zU_o h1, fun s hs => zU_n (by omega), fun _ _ => rfl⟩
  have s6 : X6 i 28 = 1 - X i 28 := by rw [e6, zU_s]
  refine ⟨oH_f f6 (by rw [s6]; exact ⟨by omega, by omega⟩) h, fun r10 _ X8 x8r Y9 y9r h8 => ?_⟩
  obtain ⟨e10, t8, -, y8⟩ := h8
  have f8 : fK X X8 Y Y9 i := f6.tr ⟨t8.1, fun s hs => t8.2 s (by omega) (by omega), y8⟩
  have t6 := fK_t f6
  have e1 : rTip X6 i (mWo X6 i 0) = flTip X i (1 - X i 28) := by
    unfold rTip flTip mWo
    rw [s6, rP_t t6, rW_t t6, rG_t t6, sdf_t t6, t6.2.2.2.2.2.1]
  have e0 : rTip X i (mWo X i 0) = flTip X i (X i 28) := rfl
  rw [e1] at e10
  rw [e0] at e4
  refine ⟨fun c => ⟨?_, f8⟩, fun c => ⟨?_, f8⟩⟩
  · rw [if_neg (fun g => c (by rw [e10, e4, g]))]
  · rw [if_pos (by have := Classical.not_not.mp c; omega)]
theorem c_X11_flip {l : Launch} {D : va_G} {cy : Nat → ClassId} {bs N : Nat} {sa : Nat → Nat} {kd len : Nat → Nat} {X Y : Nat → Int → Int} {R : Nat → Int → Option Nat} {i : Nat} (hM : zM N kd len R i)  (hp : oH X Y i) : Met l yX11_flip (.code yX11_flip cX11_flip 2 (some .int) :: zTB) (zRm 5 111) (zPc D cy bs sa N kd len X Y R [.ref (bs + (i))]) (zQi D cy bs N kd len (fun r st => st.2.2 = R ∧ (r = (if flTip X i (1 - X i 28) = flTip X i (X i 28) then (0 : Int) else 1) ∧ fK X (st.1) Y (st.2.1) i))) 0 0 (zA bs) := w_X11_flip hM  (v_X11_flip  hp)
abbrev cX11_late : ByteArray := prog_13_method_123_code
def yX11_late : MethodName := ⟨RX11, "late", "()I"⟩
theorem dX11_late_0 : decode cX11_late 0 = .ok (.aload_n 0, 1) := by decide +kernel
theorem dX11_late_1 : decode cX11_late 1 = .ok (.invokevirtual 400, 3) := by decide +kernel
theorem dX11_late_4 : decode cX11_late 4 = .ok (.iconst 1, 1) := by decide +kernel
theorem dX11_late_5 : decode cX11_late 5 = .ok (.istore_n 1, 1) := by decide +kernel
theorem dX11_late_6 : decode cX11_late 6 = .ok (.iload_n 1, 1) := by decide +kernel
theorem dX11_late_7 : decode cX11_late 7 = .ok (.aload_n 0, 1) := by decide +kernel
theorem dX11_late_8 : decode cX11_late 8 = .ok (.getfield 255, 3) := by decide +kernel
theorem dX11_late_11 : decode cX11_late 11 = .ok (.if_icmp .ge 41, 3) := by decide +kernel
theorem dX11_late_14 : decode cX11_late 14 = .ok (.aload_n 0, 1) := by decide +kernel
theorem dX11_late_15 : decode cX11_late 15 = .ok (.dup, 1) := by decide +kernel
theorem dX11_late_16 : decode cX11_late 16 = .ok (.getfield 361, 3) := by decide +kernel
theorem dX11_late_19 : decode cX11_late 19 = .ok (.iconst 1, 1) := by decide +kernel
theorem dX11_late_20 : decode cX11_late 20 = .ok (.iload_n 1, 1) := by decide +kernel
theorem dX11_late_21 : decode cX11_late 21 = .ok (.ishl, 1) := by decide +kernel
theorem dX11_late_22 : decode cX11_late 22 = .ok (.ior, 1) := by decide +kernel
theorem dX11_late_23 : decode cX11_late 23 = .ok (.putfield 361, 3) := by decide +kernel
theorem dX11_late_26 : decode cX11_late 26 = .ok (.aload_n 0, 1) := by decide +kernel
theorem dX11_late_27 : decode cX11_late 27 = .ok (.dup, 1) := by decide +kernel
theorem dX11_late_28 : decode cX11_late 28 = .ok (.getfield 364, 3) := by decide +kernel
theorem dX11_late_31 : decode cX11_late 31 = .ok (.iconst 1, 1) := by decide +kernel
theorem dX11_late_32 : decode cX11_late 32 = .ok (.iload_n 1, 1) := by decide +kernel
theorem dX11_late_33 : decode cX11_late 33 = .ok (.ishl, 1) := by decide +kernel
theorem dX11_late_34 : decode cX11_late 34 = .ok (.ior, 1) := by decide +kernel
theorem dX11_late_35 : decode cX11_late 35 = .ok (.putfield 364, 3) := by decide +kernel
theorem dX11_late_38 : decode cX11_late 38 = .ok (.aload_n 0, 1) := by decide +kernel
theorem dX11_late_39 : decode cX11_late 39 = .ok (.invokevirtual 391, 3) := by decide +kernel
theorem dX11_late_42 : decode cX11_late 42 = .ok (.aload_n 0, 1) := by decide +kernel
theorem dX11_late_43 : decode cX11_late 43 = .ok (.invokevirtual 388, 3) := by decide +kernel
theorem dX11_late_46 : decode cX11_late 46 = .ok (.iinc 1 1, 3) := by decide +kernel
theorem dX11_late_49 : decode cX11_late 49 = .ok (.goto (-43), 3) := by decide +kernel
theorem dX11_late_52 : decode cX11_late 52 = .ok (.aload_n 0, 1) := by decide +kernel
theorem dX11_late_53 : decode cX11_late 53 = .ok (.getfield 379, 3) := by decide +kernel
theorem dX11_late_56 : decode cX11_late 56 = .ok (.ireturn, 1) := by decide +kernel
def F_X11_late (i : Nat) (X Y : Nat → Int → Int) (R : Nat → Int → Option Nat)  : Prop := (∀ i j, rI (X i j)) → (∀ i j, rL (Y i j)) → ∀ X1 : Nat → Int → Int, (∀ i j, rI (X1 i j)) → (X1 = zU (zU (zU (zU (zU (zU (zU (bgW X i) i 41 1) i 42 1) i 43 0) i 44 0) i 45 0) i 46 0) i 47 0) → ((∃ q : Nat, (1 : Int) = q ∧ 1 ≤ q ∧ (1 : Int) ≤ X i 27 ∧ fK X X1 Y Y i ∧ oPl X1 Y i q ∧ cR X1 i (X i 27).toNat (csLt (rCx X i) (csI (X i 28)) q)) ∧ (∀ (k : Int) (X3 : Nat → Int → Int) (Y4 : Nat → Int → Int), rI k → (∀ i j, rI (X3 i j)) → (∀ i j, rL (Y4 i j)) → (∃ q : Nat, k = q ∧ 1 ≤ q ∧ k ≤ X i 27 ∧ fK X X3 Y Y4 i ∧ oPl X3 Y4 i q ∧ cR X3 i (X i 27).toNat (csLt (rCx X i) (csI (X i 28)) q)) → ((((X3 (i) 27) ≤ k) → (X3 (i) 47 = (csLt (rCx X i) (csI (X i 28)) (X i 27).toNat).1 9 ∧ fK X (X3) Y (Y4) i)) ∧ ((¬ ((X3 (i) 27) ≤ k)) → (∀ X6 : Nat → Int → Int, X6 = zU X3 (i) 41 (zOr (X3 (i) 41) (zShl (1) (k))) → (∀ i j, rI (X6 i j)) → (∀ X7 : Nat → Int → Int, X7 = zU X6 (i) 42 (zOr (X6 (i) 42) (zShl (1) (k))) → (∀ i j, rI (X7 i j)) → ((oH X7 Y4 i ∧ 0 ≤ X7 i 37 ∧ X7 i 37 ≤ 900) ∧ (∀ X9 : Nat → Int → Int, (∀ i j, rI (X9 i j)) → (tW X7 (X9) i ∧ ∀ t, cR X7 i (X7 i 27).toNat t → cR (X9) i (X7 i 27).toNat (csMk (rCx X7 i) t (X7 i 27).toNat)) → ((oH X9 Y4 i ∧ mHas (X9 i 36) 0 = true ∧ oCs (cX X9 i) (X9 i 27).toNat 100000 100000) ∧ (∀ X11 : Nat → Int → Int, (∀ i j, rI (X11 i j)) → ∀ Y12 : Nat → Int → Int, (∀ i j, rL (Y12 i j)) → ((∀ a, a ≠ i → (X11) a = X9 a) ∧ (∀ s, (s < 43 ∨ 47 < s) → (X11) i s = X9 i s) ∧ cX (X11) i = csCh (rP X9 i) (cX X9 i) (mCt X9 Y4 i) ∧ ∀ a, a ≠ i + 18 → (Y12) a = Y4 a) → ((rI (k + 1)) ∧ (∃ q : Nat, k + 1 = q ∧ 1 ≤ q ∧ k + 1 ≤ X i 27 ∧ fK X X11 Y Y12 i ∧ oPl X11 Y12 i q ∧ cR X11 i (X i 27).toNat (csLt (rCx X i) (csI (X i 28)) q)) ∧ (((X i 27 - (k + 1)).toNat) < ((X i 27 - (k)).toNat)))))))))))))
set_option maxHeartbeats 4000000 in
set_option maxRecDepth 100000 in
theorem w_X11_late {l : Launch} {D : va_G} {cy : Nat → ClassId} {bs N : Nat} {sa : Nat → Nat} {kd len : Nat → Nat} {X Y : Nat → Int → Int} {R : Nat → Int → Option Nat} {i : Nat} (hM : zM N kd len R i)  (hF : F_X11_late i X Y R ) : Met l yX11_late (.code yX11_late cX11_late 2 (some .int) :: zTB) (zRm 5 113) (zPc D cy bs sa N kd len X Y R [.ref (bs + (i))]) (zQi D cy bs N kd len (fun r st => st.2.2 = R ∧ (r = (csLt (rCx X i) (csI (X i 28)) (X i 27).toNat).1 9 ∧ fK X (st.1) Y (st.2.1) i))) 0 0 (zA bs) := by
  refine zstart (by decide) (Nat.le_of_ble_eq_true rfl) ?_
  intro p e s m args below meth c ls C hE hH hr hlk hnm hl hargs
  have hF := hF hH.2.2.1 hH.2.2.2
  have hS : va_S (zA bs) s.heap s.heap [] := va_S.rf
  have hl : lv_has ls 2 [(0, .ref (bs + (i)))] := hl
  refine lv_aload_n C.1 C.2.1 dX11_late_0 rfl (lv_at hl 0 rfl) ?_
  refine zgov (zrunV (As := []) (rest := []) C hE hH hS hl.1 (c_X11_beginFeed (l := l) hM ) k_RX11_400 ⟨Nat.le_of_ble_eq_true rfl, Nat.le_of_ble_eq_true rfl⟩ (zM_n0 hM) (zM_k0 hM) rfl rfl rfl (Nat.le_of_ble_eq_true rfl) dX11_late_1 ⟨Nat.zero_le _, Nat.zero_le _⟩) hS (fun X1 Yq Rq H locs hq hH hS => ?_)
  obtain ⟨h9Y, h9R, hq⟩ := hq
  dsimp only at h9Y h9R
  rw [h9Y, h9R] at hH
  have hF := hF X1 hH.2.2.1 hq
  refine zd_iconst C dX11_late_4 ?_
  refine lv_istore_n (lv' := [(1, .int (zI (1))), (0, .ref (bs + (i)))]) C.1 C.2.1 dX11_late_5 rfl hl (by decide) rfl (fun ls hl => ?_)
  obtain ⟨hI2, hF⟩ := hF
  have L2 : ∀ (fu : Nat) (k : Int) (X3 : Nat → Int → Int) (Y4 : Nat → Int → Int), rI k → (∃ q : Nat, k = q ∧ 1 ≤ q ∧ k ≤ X i 27 ∧ fK X X3 Y Y4 i ∧ oPl X3 Y4 i q ∧ cR X3 i (X i 27).toNat (csLt (rCx X i) (csI (X i 28)) q)) → ((X i 27 - (k)).toNat) < fu → ∀ (H : Heap) (locs : List Loc) (ls : Array Slot), zH D cy bs N kd len X3 Y4 R H → va_S (zA bs) s.heap H locs → lv_has ls 2 [(1, .int (zI (k))), (0, .ref (bs + (i)))] → W p l e (zRm 5 113) s m args below meth c H locs 0 0 (MQ below (zQi D cy bs N kd len (fun r st => st.2.2 = R ∧ (r = (csLt (rCx X i) (csI (X i 28)) (X i 27).toNat).1 9 ∧ fK X (st.1) Y (st.2.1) i))) args s 0 0 (zA bs)) (F0 m 6 ls []) := by
    intro fu
    induction fu with
    | zero => intro k X3 Y4 _ _ hmu; exact absurd hmu (Nat.not_lt_zero _)
    | succ fu ih2 =>
      intro k X3 Y4 hk hI hmu2 H locs ls hH hS hl
      have hF := hF k X3 Y4 hk hH.2.2.1 hH.2.2.2 hI
      refine lv_iload_n C.1 C.2.1 dX11_late_6 rfl (lv_at hl 0 rfl) ?_
      refine lv_aload_n C.1 C.2.1 dX11_late_7 rfl (lv_at hl 1 rfl) ?_
      refine zg11_27 C hH (zM_n0 hM) (zM_k0 hM) q_1314 dX11_late_8 ?_
      refine zd_icmp_ge C hk (hH.2.2.1 _ _) 52 dX11_late_11 (by decide) (fun c5 => ?_) (fun c5 => ?_)
      · have hF := hF.1 c5
        refine lv_aload_n C.1 C.2.1 dX11_late_52 rfl (lv_at hl 1 rfl) ?_
        refine zg11_47 C hH (zM_n0 hM) (zM_k0 hM) q_1334 dX11_late_53 ?_
        exact zd_iret C hr hlk hH hS (hH.2.2.1 _ _) (⟨rfl, hF⟩) dX11_late_56
      · have hF := hF.2 c5
        refine lv_aload_n C.1 C.2.1 dX11_late_14 rfl (lv_at hl 1 rfl) ?_
        refine lv_dup C.1 C.2.1 dX11_late_15 rfl ?_
        refine zg11_41 C hH (zM_n0 hM) (zM_k0 hM) q_1328 dX11_late_16 ?_
        refine zd_iconst C dX11_late_19 ?_
        refine lv_iload_n C.1 C.2.1 dX11_late_20 rfl (lv_at hl 0 rfl) ?_
        refine zd_ishl C dX11_late_21 ?_
        refine zd_ior C dX11_late_22 ?_
        refine zp11_41 C hH hS (zM_n0 hM) (zM_k0 hM) q_1328 (zI_rg _) dX11_late_23 (fun H locs hH hS => ?_)
        obtain ⟨X6, eX6⟩ : ∃ z, z = zU X3 (i) 41 (zOr (X3 (i) 41) (zShl (1) (k))) := ⟨_, rfl⟩
        rw [← eX6] at hH
        have hF := hF X6 eX6 hH.2.2.1
        refine lv_aload_n C.1 C.2.1 dX11_late_26 rfl (lv_at hl 1 rfl) ?_
        refine lv_dup C.1 C.2.1 dX11_late_27 rfl ?_
        refine zg11_42 C hH (zM_n0 hM) (zM_k0 hM) q_1329 dX11_late_28 ?_
        refine zd_iconst C dX11_late_31 ?_
        refine lv_iload_n C.1 C.2.1 dX11_late_32 rfl (lv_at hl 0 rfl) ?_
        refine zd_ishl C dX11_late_33 ?_
        refine zd_ior C dX11_late_34 ?_
        refine zp11_42 C hH hS (zM_n0 hM) (zM_k0 hM) q_1329 (zI_rg _) dX11_late_35 (fun H locs hH hS => ?_)
        obtain ⟨X7, eX7⟩ : ∃ z, z = zU X6 (i) 42 (zOr (X6 (i) 42) (zShl (1) (k))) := ⟨_, rfl⟩
        rw [← eX7] at hH
        have hF := hF X7 eX7 hH.2.2.1
        refine lv_aload_n C.1 C.2.1 dX11_late_38 rfl (lv_at hl 1 rfl) ?_
        obtain ⟨o8, hF⟩ := hF
        refine zgov (zrunV (As := []) (rest := []) C hE hH hS hl.1 (c_X11_makesWhole (l := l) hM  o8) k_RX11_391 ⟨Nat.le_of_ble_eq_true rfl, Nat.le_of_ble_eq_true rfl⟩ (zM_n0 hM) (zM_k0 hM) rfl rfl rfl (Nat.le_of_ble_eq_true rfl) dX11_late_39 ⟨Nat.zero_le _, Nat.zero_le _⟩) hS (fun X9 Yq Rq H locs hq hH hS => ?_)
        obtain ⟨h9Y, h9R, hq⟩ := hq
        dsimp only at h9Y h9R
        rw [h9Y, h9R] at hH
        have hF := hF X9 hH.2.2.1 hq
        refine lv_aload_n C.1 C.2.1 dX11_late_42 rfl (lv_at hl 1 rfl) ?_
        obtain ⟨o10, hF⟩ := hF
        refine zgov (zrunV (As := []) (rest := []) C hE hH hS hl.1 (c_X11_chooses (l := l) hM  o10) k_RX11_388 ⟨Nat.le_of_ble_eq_true rfl, Nat.le_of_ble_eq_true rfl⟩ (zM_n0 hM) (zM_k0 hM) rfl rfl rfl (Nat.le_of_ble_eq_true rfl) dX11_late_43 ⟨Nat.zero_le _, Nat.zero_le _⟩) hS (fun X11 Y12 Rq H locs hq hH hS => ?_)
        obtain ⟨h9R, hq⟩ := hq
        dsimp only at h9R
        rw [h9R] at hH
        have hF := hF X11 hH.2.2.1 Y12 hH.2.2.2 hq
        refine zd_iinc (k := 0) (lv' := [(1, .int (zI (k + 1))), (0, .ref (bs + (i)))]) C hl rfl dX11_late_46 (by decide) rfl (fun ls hl => ?_)
        refine lv_goto (tgt := 6) C.1 C.2.1 dX11_late_49 (by decide) ?_
        obtain ⟨o13, hF⟩ := hF
        exact ih2 (k + 1) X11 Y12 o13 hF.1 (Nat.lt_of_lt_of_le hF.2 (Nat.le_of_lt_succ hmu2)) _ _ _ hH hS (lv_sub hl [0, 1] rfl)
  exact L2 (((X i 27 - ((1 : Int))).toNat) + 1) ((1 : Int)) X1 Y (by decide) hI2 (Nat.lt_succ_self _) _ _ _ hH hS (lv_sub hl [0, 1] rfl)
theorem v_X11_late {X Y : Nat → Int → Int} {R : Nat → Int → Option Nat} {i : Nat}  (hp : oH X Y i) : F_X11_late i X Y R  := by
  unfold F_X11_late
  intro hX hY
  have h := hp
  have h27 := h.1.2.2.1
  intro X1 x1r e1
  have e1 : X1 = bfW X i := e1
  have bp := bfW_pl (Y := Y) h
  have e27 : bfW X i i 27 = X i 27 := bfW_n (by omega)
  have e28 : bfW X i i 28 = X i 28 := bfW_n (by omega)
  rw [e27, e28] at bp
  refine ⟨⟨1, rfl, by decide, by omega, by rw [e1]; exact bfW_f, by rw [e1]; exact ⟨bp.1.1, oCs_up (by decide) (by decide) bp.1.2.1, bp.1.2.2⟩, by rw [e1]; exact bp.2⟩, fun k X3 Y4 kr x3r y4r hI => ?_⟩
  obtain ⟨q, hq, q1, q2, f, pl, hc⟩ := hI
  subst hq
  have s27 : X3 i 27 = X i 27 := f.2.1 _ (by omega)
  rw [s27]
  refine ⟨fun c => ⟨?_, f⟩, fun c X6 e6 x6r X7 e7 x7r => ?_⟩
  · rw [show (X i 27).toNat = q by omega]
    exact congrFun hc.1 9
  have u := fun X9 X11 Y12 => do_g (X := X3) (X10 := X7) (X12 := X9) (X14 := X11) (Y := Y4) (Y15 := Y12) (g1 := zShl 1 q) (g2 := zShl 1 q) pl.1 ⟨oCs_up (by omega) (by omega) pl.2.1, pl.2.2⟩ (by rw [e7, e6, zU_n (by omega)])
  refine ⟨(u X X Y).1, fun X9 _ hm => ⟨((u X9 X Y).2 hm).1, fun X11 x11r Y12 y12r hq => ?_⟩⟩
  have v := ((u X9 X11 Y12).2 hm).2 hq
  rw [s27, rCx_t f] at v
  have f2 := f.tr v.1
  have own := v.2 (cX X3 i, kX X3 i) ⟨rfl, fun _ _ _ => rfl⟩
  have oc := pl.2
  rw [s27] at oc
  have og : oCS (cU (cU (cX X3 i) 1 (zOr (cX X3 i 1) (zShl 1 q))) 2 (zOr (cX X3 i 2) (zShl 1 q)), kX X3 i) (X i 27).toNat (15 + 15 * (q : Int)) (15 + 15 * (q : Int)) := oc
  have od := oCS_C (x := rCx X i) (by show 0 < (X i 27).toNat; omega) (oCS_mk (x := rCx X i) (by show (X i 27).toNat ≤ 15; omega) og)
  have d28 : X11 i 28 = _ := congrFun own.1 0
  have d36 : X11 i 36 = _ := congrFun own.1 3
  have s27' : X11 i 27 = X i 27 := f2.2.1 _ (by omega)
  refine ⟨⟨by omega, by omega⟩, ⟨q + 1, by omega, by omega, by omega, f2, ⟨oH_f v.1 (by rw [d28]; exact od.2.2) pl.1, ?_⟩, ?_⟩, by omega⟩
  · rw [s27']
    refine ⟨?_, ?_, ?_⟩
    · show oCs (cX X11 i) _ _ _
      rw [own.1]
      exact oCs_up (by omega) (by omega) od.1
    · show mHas (X11 i 36) 0 = true
      rw [d36]
      exact od.2.1
    · show 0 ≤ X11 i 28 ∧ X11 i 28 ≤ 1
      rw [d28]
      exact od.2.2
  · have w := v.2 _ hc
    show cR X11 i (X i 27).toNat (if q = 0 then _ else _)
    rw [if_neg (by omega)]
    exact w
theorem c_X11_late {l : Launch} {D : va_G} {cy : Nat → ClassId} {bs N : Nat} {sa : Nat → Nat} {kd len : Nat → Nat} {X Y : Nat → Int → Int} {R : Nat → Int → Option Nat} {i : Nat} (hM : zM N kd len R i)  (hp : oH X Y i) : Met l yX11_late (.code yX11_late cX11_late 2 (some .int) :: zTB) (zRm 5 113) (zPc D cy bs sa N kd len X Y R [.ref (bs + (i))]) (zQi D cy bs N kd len (fun r st => st.2.2 = R ∧ (r = (csLt (rCx X i) (csI (X i 28)) (X i 27).toNat).1 9 ∧ fK X (st.1) Y (st.2.1) i))) 0 0 (zA bs) := w_X11_late hM  (v_X11_late  hp)
abbrev cX11_even : ByteArray := prog_13_method_124_code
def yX11_even : MethodName := ⟨RX11, "even", "()I"⟩
theorem dX11_even_0 : decode cX11_even 0 = .ok (.aload_n 0, 1) := by decide +kernel
theorem dX11_even_1 : decode cX11_even 1 = .ok (.invokevirtual 550, 3) := by decide +kernel
theorem dX11_even_4 : decode cX11_even 4 = .ok (.istore_n 1, 1) := by decide +kernel
theorem dX11_even_5 : decode cX11_even 5 = .ok (.iconst 0, 1) := by decide +kernel
theorem dX11_even_6 : decode cX11_even 6 = .ok (.istore_n 2, 1) := by decide +kernel
theorem dX11_even_7 : decode cX11_even 7 = .ok (.iconst 0, 1) := by decide +kernel
theorem dX11_even_8 : decode cX11_even 8 = .ok (.istore_n 3, 1) := by decide +kernel
theorem dX11_even_9 : decode cX11_even 9 = .ok (.iload_n 3, 1) := by decide +kernel
theorem dX11_even_10 : decode cX11_even 10 = .ok (.aload_n 0, 1) := by decide +kernel
theorem dX11_even_11 : decode cX11_even 11 = .ok (.getfield 255, 3) := by decide +kernel
theorem dX11_even_14 : decode cX11_even 14 = .ok (.if_icmp .ge 66, 3) := by decide +kernel
theorem dX11_even_17 : decode cX11_even 17 = .ok (.iconst 0, 1) := by decide +kernel
theorem dX11_even_18 : decode cX11_even 18 = .ok (.istore 4, 2) := by decide +kernel
theorem dX11_even_20 : decode cX11_even 20 = .ok (.iload 4, 2) := by decide +kernel
theorem dX11_even_22 : decode cX11_even 22 = .ok (.iload_n 3, 1) := by decide +kernel
theorem dX11_even_23 : decode cX11_even 23 = .ok (.if_icmp .ge 51, 3) := by decide +kernel
theorem dX11_even_26 : decode cX11_even 26 = .ok (.iload_n 2, 1) := by decide +kernel
theorem dX11_even_27 : decode cX11_even 27 = .ok (.iload_n 1, 1) := by decide +kernel
theorem dX11_even_28 : decode cX11_even 28 = .ok (.iload_n 3, 1) := by decide +kernel
theorem dX11_even_29 : decode cX11_even 29 = .ok (.invokestatic 92, 3) := by decide +kernel
theorem dX11_even_32 : decode cX11_even 32 = .ok (.ifCond .eq 33, 3) := by decide +kernel
theorem dX11_even_35 : decode cX11_even 35 = .ok (.iload_n 1, 1) := by decide +kernel
theorem dX11_even_36 : decode cX11_even 36 = .ok (.iload 4, 2) := by decide +kernel
theorem dX11_even_38 : decode cX11_even 38 = .ok (.invokestatic 92, 3) := by decide +kernel
theorem dX11_even_41 : decode cX11_even 41 = .ok (.ifCond .eq 24, 3) := by decide +kernel
theorem dX11_even_44 : decode cX11_even 44 = .ok (.aload_n 0, 1) := by decide +kernel
theorem dX11_even_45 : decode cX11_even 45 = .ok (.getfield 54, 3) := by decide +kernel
theorem dX11_even_48 : decode cX11_even 48 = .ok (.iload_n 3, 1) := by decide +kernel
theorem dX11_even_49 : decode cX11_even 49 = .ok (.laload, 1) := by decide +kernel
theorem dX11_even_50 : decode cX11_even 50 = .ok (.aload_n 0, 1) := by decide +kernel
theorem dX11_even_51 : decode cX11_even 51 = .ok (.getfield 54, 3) := by decide +kernel
theorem dX11_even_54 : decode cX11_even 54 = .ok (.iload 4, 2) := by decide +kernel
theorem dX11_even_56 : decode cX11_even 56 = .ok (.laload, 1) := by decide +kernel
theorem dX11_even_57 : decode cX11_even 57 = .ok (.lcmp, 1) := by decide +kernel
theorem dX11_even_58 : decode cX11_even 58 = .ok (.ifCond .ne 7, 3) := by decide +kernel
theorem dX11_even_61 : decode cX11_even 61 = .ok (.iconst 1, 1) := by decide +kernel
theorem dX11_even_62 : decode cX11_even 62 = .ok (.goto 4, 3) := by decide +kernel
theorem dX11_even_65 : decode cX11_even 65 = .ok (.iconst 0, 1) := by decide +kernel
theorem dX11_even_66 : decode cX11_even 66 = .ok (.iadd, 1) := by decide +kernel
theorem dX11_even_67 : decode cX11_even 67 = .ok (.istore_n 2, 1) := by decide +kernel
theorem dX11_even_68 : decode cX11_even 68 = .ok (.iinc 4 1, 3) := by decide +kernel
theorem dX11_even_71 : decode cX11_even 71 = .ok (.goto (-51), 3) := by decide +kernel
theorem dX11_even_74 : decode cX11_even 74 = .ok (.iinc 3 1, 3) := by decide +kernel
theorem dX11_even_77 : decode cX11_even 77 = .ok (.goto (-68), 3) := by decide +kernel
theorem dX11_even_80 : decode cX11_even 80 = .ok (.iload_n 2, 1) := by decide +kernel
theorem dX11_even_81 : decode cX11_even 81 = .ok (.ireturn, 1) := by decide +kernel
theorem q_1952 : Cond.methodLink RX11 550 yX11_leavesOf ∈ zTB := zmem 1952 (by decide +kernel) rfl
theorem q_1954 : Cond.instanceMethod yX11_leavesOf ∈ zTB := zmem 1954 (by decide +kernel) rfl
theorem q_115 : Cond.selects RX11 yX11_leavesOf yX11_leavesOf ∈ zTB := zmem 115 (by decide +kernel) rfl
theorem q_1955 : Cond.code yX11_leavesOf cX11_leavesOf 3 (some .int) ∈ zTB := zmem 1955 (by decide +kernel) rfl
theorem k_RX11_550 : zLv RX11 550 RX11 yX11_leavesOf cX11_leavesOf 3 (some .int) 0 := ⟨⟨q_1952, q_1954, q_115, q_140, q_1955⟩, rfl, ⟨by decide, by decide⟩, by decide +kernel⟩
def F_X11_even (i : Nat) (X Y : Nat → Int → Int) (R : Nat → Int → Option Nat)  : Prop := (∀ i j, rI (X i j)) → (∀ i j, rL (Y i j)) → (oH X Y i) ∧ (rI (bS (fLv (rP X i) (sdf X i) (X i 27).toNat) (X i 27).toNat) → ((∃ q : Nat, (0 : Int) = q ∧ (0 : Int) ≤ X i 27 ∧ (0 : Int) = evN (fEv (fLv (rP X i) (sdf X i) (X i 27).toNat) (rG X i)) q) ∧ (∀ (z : Int) (k : Int), rI z → rI k → (∃ q : Nat, k = q ∧ k ≤ X i 27 ∧ z = evN (fEv (fLv (rP X i) (sdf X i) (X i 27).toNat) (rG X i)) q) → ((((X (i) 27) ≤ k) → (z = evN (fEv (fLv (rP X i) (sdf X i) (X i 27).toNat) (rG X i)) (X i 27).toNat)) ∧ ((¬ ((X (i) 27) ≤ k)) → ((∃ q y : Nat, k = q ∧ k < X i 27 ∧ (0 : Int) = y ∧ y ≤ q ∧ z = evN (fEv (fLv (rP X i) (sdf X i) (X i 27).toNat) (rG X i)) q + cN (fEv (fLv (rP X i) (sdf X i) (X i 27).toNat) (rG X i) q) y) ∧ (∀ (z2 : Int) (j : Int), rI z2 → rI j → (∃ q y : Nat, k = q ∧ k < X i 27 ∧ j = y ∧ y ≤ q ∧ z2 = evN (fEv (fLv (rP X i) (sdf X i) (X i 27).toNat) (rG X i)) q + cN (fEv (fLv (rP X i) (sdf X i) (X i 27).toNat) (rG X i) q) y) → (((k ≤ j) → ((rI (k + 1)) ∧ (∃ q : Nat, k + 1 = q ∧ k + 1 ≤ X i 27 ∧ z2 = evN (fEv (fLv (rP X i) (sdf X i) (X i 27).toNat) (rG X i)) q) ∧ (((X i 27 - (k + 1)).toNat) < ((X i 27 - (k)).toNat)))) ∧ ((¬ (k ≤ j)) → ((((mHas (bS (fLv (rP X i) (sdf X i) (X i 27).toNat) (X i 27).toNat) (k)) = false) → ((rI (z2 + 0)) ∧ (rI (j + 1)) ∧ (∃ q y : Nat, k = q ∧ k < X i 27 ∧ j + 1 = y ∧ y ≤ q ∧ z2 + 0 = evN (fEv (fLv (rP X i) (sdf X i) (X i 27).toNat) (rG X i)) q + cN (fEv (fLv (rP X i) (sdf X i) (X i 27).toNat) (rG X i) q) y) ∧ (((k - (j + 1)).toNat) < ((k - (j)).toNat)))) ∧ (((mHas (bS (fLv (rP X i) (sdf X i) (X i 27).toNat) (X i 27).toNat) (k)) = true) → ((((mHas (bS (fLv (rP X i) (sdf X i) (X i 27).toNat) (X i 27).toNat) (j)) = false) → ((rI (z2 + 0)) ∧ (rI (j + 1)) ∧ (∃ q y : Nat, k = q ∧ k < X i 27 ∧ j + 1 = y ∧ y ≤ q ∧ z2 + 0 = evN (fEv (fLv (rP X i) (sdf X i) (X i 27).toNat) (rG X i)) q + cN (fEv (fLv (rP X i) (sdf X i) (X i 27).toNat) (rG X i) q) y) ∧ (((k - (j + 1)).toNat) < ((k - (j)).toNat)))) ∧ (((mHas (bS (fLv (rP X i) (sdf X i) (X i 27).toNat) (X i 27).toNat) (j)) = true) → ((0 ≤ k ∧ k < 15) ∧ ((0 ≤ j ∧ j < 15) ∧ (((¬ (Y (i + 15) (k)) = (Y (i + 15) (j))) → ((rI (z2 + 0)) ∧ (rI (j + 1)) ∧ (∃ q y : Nat, k = q ∧ k < X i 27 ∧ j + 1 = y ∧ y ≤ q ∧ z2 + 0 = evN (fEv (fLv (rP X i) (sdf X i) (X i 27).toNat) (rG X i)) q + cN (fEv (fLv (rP X i) (sdf X i) (X i 27).toNat) (rG X i) q) y) ∧ (((k - (j + 1)).toNat) < ((k - (j)).toNat)))) ∧ ((¬ (¬ (Y (i + 15) (k)) = (Y (i + 15) (j)))) → ((rI (z2 + 1)) ∧ (rI (j + 1)) ∧ (∃ q y : Nat, k = q ∧ k < X i 27 ∧ j + 1 = y ∧ y ≤ q ∧ z2 + 1 = evN (fEv (fLv (rP X i) (sdf X i) (X i 27).toNat) (rG X i)) q + cN (fEv (fLv (rP X i) (sdf X i) (X i 27).toNat) (rG X i) q) y) ∧ (((k - (j + 1)).toNat) < ((k - (j)).toNat))))))))))))))))))))
set_option maxHeartbeats 4000000 in
set_option maxRecDepth 100000 in
theorem w_X11_even {l : Launch} {D : va_G} {cy : Nat → ClassId} {bs N : Nat} {sa : Nat → Nat} {kd len : Nat → Nat} {X Y : Nat → Int → Int} {R : Nat → Int → Option Nat} {i : Nat} (hM : zM N kd len R i)  (hF : F_X11_even i X Y R ) : Met l yX11_even (.code yX11_even cX11_even 5 (some .int) :: zTB) (zRm 4 88) (zPc D cy bs sa N kd len X Y R [.ref (bs + (i))]) (zQi D cy bs N kd len (fun r st => r = evN (fEv (fLv (rP X i) (sdf X i) (X i 27).toNat) (rG X i)) (X i 27).toNat ∧ st = (X, Y, R))) 0 0 (zA bs) := by
  refine zstart (by decide) (Nat.le_of_ble_eq_true rfl) ?_
  intro p e s m args below meth c ls C hE hH hr hlk hnm hl hargs
  have hF := hF hH.2.2.1 hH.2.2.2
  have hS : va_S (zA bs) s.heap s.heap [] := va_S.rf
  have hl : lv_has ls 5 [(0, .ref (bs + (i)))] := hl
  refine lv_aload_n C.1 C.2.1 dX11_even_0 rfl (lv_at hl 0 rfl) ?_
  obtain ⟨o1, hF⟩ := hF
  refine zgoi (zrunV (As := []) (rest := []) C hE hH hS hl.1 (c_X11_leavesOf (l := l) hM  o1) k_RX11_550 ⟨Nat.le_of_ble_eq_true rfl, Nat.le_of_ble_eq_true rfl⟩ (zM_n0 hM) (zM_k0 hM) rfl rfl rfl (Nat.le_of_ble_eq_true rfl) dX11_even_1 ⟨Nat.zero_le _, Nat.zero_le _⟩) hS (fun rq Xq Yq Rq H locs hrq hq hH hS => ?_)
  obtain ⟨h91, h92⟩ := hq
  have h93 : Xq = X := congrArg (fun z => z.1) h92
  have h94 : Yq = Y := congrArg (fun z => z.2.1) h92
  have h95 : Rq = R := congrArg (fun z => z.2.2) h92
  rw [h93, h94, h95] at hH
  subst h91
  have hr2 := hrq
  have hF := hF hr2
  refine lv_istore_n (lv' := [(1, .int (zI (bS (fLv (rP X i) (sdf X i) (X i 27).toNat) (X i 27).toNat))), (0, .ref (bs + (i)))]) C.1 C.2.1 dX11_even_4 rfl hl (by decide) rfl (fun ls hl => ?_)
  refine zd_iconst C dX11_even_5 ?_
  refine lv_istore_n (lv' := [(2, .int (zI (0))), (1, .int (zI (bS (fLv (rP X i) (sdf X i) (X i 27).toNat) (X i 27).toNat))), (0, .ref (bs + (i)))]) C.1 C.2.1 dX11_even_6 rfl hl (by decide) rfl (fun ls hl => ?_)
  refine zd_iconst C dX11_even_7 ?_
  refine lv_istore_n (lv' := [(3, .int (zI (0))), (2, .int (zI (0))), (1, .int (zI (bS (fLv (rP X i) (sdf X i) (X i 27).toNat) (X i 27).toNat))), (0, .ref (bs + (i)))]) C.1 C.2.1 dX11_even_8 rfl hl (by decide) rfl (fun ls hl => ?_)
  obtain ⟨hI3, hF⟩ := hF
  have L3 : ∀ (fu : Nat) (z : Int) (k : Int), rI z → rI k → (∃ q : Nat, k = q ∧ k ≤ X i 27 ∧ z = evN (fEv (fLv (rP X i) (sdf X i) (X i 27).toNat) (rG X i)) q) → ((X i 27 - (k)).toNat) < fu → ∀ (H : Heap) (locs : List Loc) (ls : Array Slot), zH D cy bs N kd len X Y R H → va_S (zA bs) s.heap H locs → lv_has ls 5 [(2, .int (zI (z))), (3, .int (zI (k))), (1, .int (zI (bS (fLv (rP X i) (sdf X i) (X i 27).toNat) (X i 27).toNat))), (0, .ref (bs + (i)))] → W p l e (zRm 4 88) s m args below meth c H locs 0 0 (MQ below (zQi D cy bs N kd len (fun r st => r = evN (fEv (fLv (rP X i) (sdf X i) (X i 27).toNat) (rG X i)) (X i 27).toNat ∧ st = (X, Y, R))) args s 0 0 (zA bs)) (F0 m 9 ls []) := by
    intro fu
    induction fu with
    | zero => intro z k _ _ _ hmu; exact absurd hmu (Nat.not_lt_zero _)
    | succ fu ih3 =>
      intro z k hz hk hI hmu3 H locs ls hH hS hl
      have hF := hF z k hz hk  hI
      refine lv_iload_n C.1 C.2.1 dX11_even_9 rfl (lv_at hl 1 rfl) ?_
      refine lv_aload_n C.1 C.2.1 dX11_even_10 rfl (lv_at hl 3 rfl) ?_
      refine zg11_27 C hH (zM_n0 hM) (zM_k0 hM) q_1314 dX11_even_11 ?_
      refine zd_icmp_ge C hk (hH.2.2.1 _ _) 80 dX11_even_14 (by decide) (fun c4 => ?_) (fun c4 => ?_)
      · have hF := hF.1 c4
        refine lv_iload_n C.1 C.2.1 dX11_even_80 rfl (lv_at hl 0 rfl) ?_
        exact zd_iret C hr hlk hH hS hz (⟨hF, rfl⟩) dX11_even_81
      · have hF := hF.2 c4
        refine zd_iconst C dX11_even_17 ?_
        refine lv_istore (lv' := [(4, .int (zI (0))), (2, .int (zI (z))), (3, .int (zI (k))), (1, .int (zI (bS (fLv (rP X i) (sdf X i) (X i 27).toNat) (X i 27).toNat))), (0, .ref (bs + (i)))]) C.1 C.2.1 dX11_even_18 hl (by decide) rfl (fun ls hl => ?_)
        obtain ⟨hI5, hF⟩ := hF
        have L5 : ∀ (fu : Nat) (z2 : Int) (j : Int), rI z2 → rI j → (∃ q y : Nat, k = q ∧ k < X i 27 ∧ j = y ∧ y ≤ q ∧ z2 = evN (fEv (fLv (rP X i) (sdf X i) (X i 27).toNat) (rG X i)) q + cN (fEv (fLv (rP X i) (sdf X i) (X i 27).toNat) (rG X i) q) y) → ((k - (j)).toNat) < fu → ∀ (H : Heap) (locs : List Loc) (ls : Array Slot), zH D cy bs N kd len X Y R H → va_S (zA bs) s.heap H locs → lv_has ls 5 [(2, .int (zI (z2))), (4, .int (zI (j))), (3, .int (zI (k))), (1, .int (zI (bS (fLv (rP X i) (sdf X i) (X i 27).toNat) (X i 27).toNat))), (0, .ref (bs + (i)))] → W p l e (zRm 4 88) s m args below meth c H locs 0 0 (MQ below (zQi D cy bs N kd len (fun r st => r = evN (fEv (fLv (rP X i) (sdf X i) (X i 27).toNat) (rG X i)) (X i 27).toNat ∧ st = (X, Y, R))) args s 0 0 (zA bs)) (F0 m 20 ls []) := by
          intro fu
          induction fu with
          | zero => intro z2 j _ _ _ hmu; exact absurd hmu (Nat.not_lt_zero _)
          | succ fu ih5 =>
            intro z2 j hz2 hj hI hmu5 H locs ls hH hS hl
            have hF := hF z2 j hz2 hj  hI
            refine lv_iload C.1 C.2.1 dX11_even_20 (lv_at hl 1 rfl) ?_
            refine lv_iload_n C.1 C.2.1 dX11_even_22 rfl (lv_at hl 2 rfl) ?_
            refine zd_icmp_ge C hj hk 74 dX11_even_23 (by decide) (fun c6 => ?_) (fun c6 => ?_)
            · have hF := hF.1 c6
              refine zd_iinc (k := 2) (lv' := [(3, .int (zI (k + 1))), (2, .int (zI (z2))), (4, .int (zI (j))), (1, .int (zI (bS (fLv (rP X i) (sdf X i) (X i 27).toNat) (X i 27).toNat))), (0, .ref (bs + (i)))]) C hl rfl dX11_even_74 (by decide) rfl (fun ls hl => ?_)
              refine lv_goto (tgt := 9) C.1 C.2.1 dX11_even_77 (by decide) ?_
              obtain ⟨o7, hF⟩ := hF
              exact ih3 (z2) (k + 1) hz2 o7 hF.1 (Nat.lt_of_lt_of_le hF.2 (Nat.le_of_lt_succ hmu3)) _ _ _ hH hS (lv_sub hl [1, 0, 3, 4] rfl)
            · have hF := hF.2 c6
              refine lv_iload_n C.1 C.2.1 dX11_even_26 rfl (lv_at hl 0 rfl) ?_
              refine lv_iload_n C.1 C.2.1 dX11_even_27 rfl (lv_at hl 3 rfl) ?_
              refine lv_iload_n C.1 C.2.1 dX11_even_28 rfl (lv_at hl 2 rfl) ?_
              refine zgoi (zrunS (As := [.int (zI (bS (fLv (rP X i) (sdf X i) (X i 27).toNat) (X i 27).toNat)), .int (zI (k))]) (rest := [.int (zI (z2))]) C hE hH hS hl.1 (c_X11_has (l := l)  (bS (fLv (rP X i) (sdf X i) (X i 27).toNat) (X i 27).toNat) hr2 (k) hk) k_RX11_92 ⟨Nat.le_of_ble_eq_true rfl, Nat.le_of_ble_eq_true rfl⟩ rfl (Nat.le_of_ble_eq_true rfl) dX11_even_29 ⟨Nat.zero_le _, Nat.zero_le _⟩) hS (fun rq Xq Yq Rq H locs hrq hq hH hS => ?_)
              obtain ⟨h91, h92⟩ := hq
              have h93 : Xq = X := congrArg (fun z => z.1) h92
              have h94 : Yq = Y := congrArg (fun z => z.2.1) h92
              have h95 : Rq = R := congrArg (fun z => z.2.2) h92
              rw [h93, h94, h95] at hH
              subst h91
              refine zd_ifB_eq C 65 dX11_even_32 (by decide) (fun c8 => ?_) (fun c8 => ?_)
              · have hF := hF.1 c8
                refine zd_iconst C dX11_even_65 ?_
                refine zd_iadd C dX11_even_66 ?_
                refine lv_istore_n (lv' := [(2, .int (zI (z2 + 0))), (4, .int (zI (j))), (3, .int (zI (k))), (1, .int (zI (bS (fLv (rP X i) (sdf X i) (X i 27).toNat) (X i 27).toNat))), (0, .ref (bs + (i)))]) C.1 C.2.1 dX11_even_67 rfl hl (by decide) rfl (fun ls hl => ?_)
                refine zd_iinc (k := 1) (lv' := [(4, .int (zI (j + 1))), (2, .int (zI (z2 + 0))), (3, .int (zI (k))), (1, .int (zI (bS (fLv (rP X i) (sdf X i) (X i 27).toNat) (X i 27).toNat))), (0, .ref (bs + (i)))]) C hl rfl dX11_even_68 (by decide) rfl (fun ls hl => ?_)
                refine lv_goto (tgt := 20) C.1 C.2.1 dX11_even_71 (by decide) ?_
                obtain ⟨o9, hF⟩ := hF
                obtain ⟨o10, hF⟩ := hF
                exact ih5 (z2 + 0) (j + 1) o9 o10 hF.1 (Nat.lt_of_lt_of_le hF.2 (Nat.le_of_lt_succ hmu5)) _ _ _ hH hS (lv_sub hl [1, 0, 2, 3, 4] rfl)
              · have hF := hF.2 c8
                refine lv_iload_n C.1 C.2.1 dX11_even_35 rfl (lv_at hl 3 rfl) ?_
                refine lv_iload C.1 C.2.1 dX11_even_36 (lv_at hl 1 rfl) ?_
                refine zgoi (zrunS (As := [.int (zI (bS (fLv (rP X i) (sdf X i) (X i 27).toNat) (X i 27).toNat)), .int (zI (j))]) (rest := [.int (zI (z2))]) C hE hH hS hl.1 (c_X11_has (l := l)  (bS (fLv (rP X i) (sdf X i) (X i 27).toNat) (X i 27).toNat) hr2 (j) hj) k_RX11_92 ⟨Nat.le_of_ble_eq_true rfl, Nat.le_of_ble_eq_true rfl⟩ rfl (Nat.le_of_ble_eq_true rfl) dX11_even_38 ⟨Nat.zero_le _, Nat.zero_le _⟩) hS (fun rq Xq Yq Rq H locs hrq hq hH hS => ?_)
                obtain ⟨h91, h92⟩ := hq
                have h93 : Xq = X := congrArg (fun z => z.1) h92
                have h94 : Yq = Y := congrArg (fun z => z.2.1) h92
                have h95 : Rq = R := congrArg (fun z => z.2.2) h92
                rw [h93, h94, h95] at hH
                subst h91
                refine zd_ifB_eq C 65 dX11_even_41 (by decide) (fun c11 => ?_) (fun c11 => ?_)
                · have hF := hF.1 c11
                  refine zd_iconst C dX11_even_65 ?_
                  refine zd_iadd C dX11_even_66 ?_
                  refine lv_istore_n (lv' := [(2, .int (zI (z2 + 0))), (4, .int (zI (j))), (3, .int (zI (k))), (1, .int (zI (bS (fLv (rP X i) (sdf X i) (X i 27).toNat) (X i 27).toNat))), (0, .ref (bs + (i)))]) C.1 C.2.1 dX11_even_67 rfl hl (by decide) rfl (fun ls hl => ?_)
                  refine zd_iinc (k := 1) (lv' := [(4, .int (zI (j + 1))), (2, .int (zI (z2 + 0))), (3, .int (zI (k))), (1, .int (zI (bS (fLv (rP X i) (sdf X i) (X i 27).toNat) (X i 27).toNat))), (0, .ref (bs + (i)))]) C hl rfl dX11_even_68 (by decide) rfl (fun ls hl => ?_)
                  refine lv_goto (tgt := 20) C.1 C.2.1 dX11_even_71 (by decide) ?_
                  obtain ⟨o12, hF⟩ := hF
                  obtain ⟨o13, hF⟩ := hF
                  exact ih5 (z2 + 0) (j + 1) o12 o13 hF.1 (Nat.lt_of_lt_of_le hF.2 (Nat.le_of_lt_succ hmu5)) _ _ _ hH hS (lv_sub hl [1, 0, 2, 3, 4] rfl)
                · have hF := hF.2 c11
                  refine lv_aload_n C.1 C.2.1 dX11_even_44 rfl (lv_at hl 4 rfl) ?_
                  refine zg11_33 C hH (zM_n0 hM) (zM_k0 hM) q_1320 (zM_r15 hM) dX11_even_45 ?_
                  refine lv_iload_n C.1 C.2.1 dX11_even_48 rfl (lv_at hl 2 rfl) ?_
                  obtain ⟨o14, hF⟩ := hF
                  refine zd_lald C hH (zM_n15 hM) (zM_k15 hM) o14.1 (by rw [zM_l15 hM]; exact o14.2) (by rw [zM_l15 hM]; decide) dX11_even_49 ?_
                  refine lv_aload_n C.1 C.2.1 dX11_even_50 rfl (lv_at hl 4 rfl) ?_
                  refine zg11_33 C hH (zM_n0 hM) (zM_k0 hM) q_1320 (zM_r15 hM) dX11_even_51 ?_
                  refine lv_iload C.1 C.2.1 dX11_even_54 (lv_at hl 1 rfl) ?_
                  obtain ⟨o15, hF⟩ := hF
                  refine zd_lald C hH (zM_n15 hM) (zM_k15 hM) o15.1 (by rw [zM_l15 hM]; exact o15.2) (by rw [zM_l15 hM]; decide) dX11_even_56 ?_
                  refine zd_lcmp C (hH.2.2.2 _ _) (hH.2.2.2 _ _) dX11_even_57 ?_
                  refine zd_ifL_ne C 65 dX11_even_58 (by decide) (fun c16 => ?_) (fun c16 => ?_)
                  · have hF := hF.1 c16
                    refine zd_iconst C dX11_even_65 ?_
                    refine zd_iadd C dX11_even_66 ?_
                    refine lv_istore_n (lv' := [(2, .int (zI (z2 + 0))), (4, .int (zI (j))), (3, .int (zI (k))), (1, .int (zI (bS (fLv (rP X i) (sdf X i) (X i 27).toNat) (X i 27).toNat))), (0, .ref (bs + (i)))]) C.1 C.2.1 dX11_even_67 rfl hl (by decide) rfl (fun ls hl => ?_)
                    refine zd_iinc (k := 1) (lv' := [(4, .int (zI (j + 1))), (2, .int (zI (z2 + 0))), (3, .int (zI (k))), (1, .int (zI (bS (fLv (rP X i) (sdf X i) (X i 27).toNat) (X i 27).toNat))), (0, .ref (bs + (i)))]) C hl rfl dX11_even_68 (by decide) rfl (fun ls hl => ?_)
                    refine lv_goto (tgt := 20) C.1 C.2.1 dX11_even_71 (by decide) ?_
                    obtain ⟨o17, hF⟩ := hF
                    obtain ⟨o18, hF⟩ := hF
                    exact ih5 (z2 + 0) (j + 1) o17 o18 hF.1 (Nat.lt_of_lt_of_le hF.2 (Nat.le_of_lt_succ hmu5)) _ _ _ hH hS (lv_sub hl [1, 0, 2, 3, 4] rfl)
                  · have hF := hF.2 c16
                    refine zd_iconst C dX11_even_61 ?_
                    refine lv_goto (tgt := 66) C.1 C.2.1 dX11_even_62 (by decide) ?_
                    refine zd_iadd C dX11_even_66 ?_
                    refine lv_istore_n (lv' := [(2, .int (zI (z2 + 1))), (4, .int (zI (j))), (3, .int (zI (k))), (1, .int (zI (bS (fLv (rP X i) (sdf X i) (X i 27).toNat) (X i 27).toNat))), (0, .ref (bs + (i)))]) C.1 C.2.1 dX11_even_67 rfl hl (by decide) rfl (fun ls hl => ?_)
                    refine zd_iinc (k := 1) (lv' := [(4, .int (zI (j + 1))), (2, .int (zI (z2 + 1))), (3, .int (zI (k))), (1, .int (zI (bS (fLv (rP X i) (sdf X i) (X i 27).toNat) (X i 27).toNat))), (0, .ref (bs + (i)))]) C hl rfl dX11_even_68 (by decide) rfl (fun ls hl => ?_)
                    refine lv_goto (tgt := 20) C.1 C.2.1 dX11_even_71 (by decide) ?_
                    obtain ⟨o19, hF⟩ := hF
                    obtain ⟨o20, hF⟩ := hF
                    exact ih5 (z2 + 1) (j + 1) o19 o20 hF.1 (Nat.lt_of_lt_of_le hF.2 (Nat.le_of_lt_succ hmu5)) _ _ _ hH hS (lv_sub hl [1, 0, 2, 3, 4] rfl)
        exact L5 (((k - ((0 : Int))).toNat) + 1) (z) ((0 : Int)) hz (by decide) hI5 (Nat.lt_succ_self _) _ _ _ hH hS (lv_sub hl [1, 0, 2, 3, 4] rfl)
  exact L3 (((X i 27 - ((0 : Int))).toNat) + 1) ((0 : Int)) ((0 : Int)) (by decide) (by decide) hI3 (Nat.lt_succ_self _) _ _ _ hH hS (lv_sub hl [1, 0, 2, 3] rfl)
theorem v_X11_even {X Y : Nat → Int → Int} {R : Nat → Int → Option Nat} {i : Nat}  (hp : oH X Y i) : F_X11_even i X Y R  := by
  unfold F_X11_even
  intro hX hY
  have h := hp
  have h27 := h.1.2.2.1
  have hbs := h.1.2.2.2
  have h35 := h.2.2.2.1
  have hl := h.2.2.1
  have sd : ∀ q : Nat, (q : Int) < X i 27 → mHas (X i 35) q = sdf X i q := fun q hq => by
    rw [h35]
    exact bS_has _ (by omega) (by omega)
  have ep : ∀ q : Nat, 1 ≤ q → (q : Int) < X i 27 → mPar X i q = rP X i q := fun q h1 h2 => rP_c hbs.1 h1 (by omega)
  have pb : ∀ q : Nat, 1 ≤ q → (q : Int) < X i 27 → rP X i q < q := fun q h1 h2 => rP_par hbs.1 q h1 (by omega)
  have hW := (oH_W h).2.2
  refine ⟨h, fun _ => ⟨⟨0, rfl, by omega, rfl⟩, fun z k zr kr hI => ?_⟩⟩
  obtain ⟨q, hq, q2, hz⟩ := hI
  subst hq
  refine ⟨fun c => by rw [hz, show (X i 27).toNat = q by omega], fun c => ⟨⟨q, 0, rfl, by omega, rfl, Nat.zero_le _, by rw [hz]; exact (Int.add_zero _).symm⟩, fun z2 j zr2 jr hJ => ?_⟩⟩
  obtain ⟨q', y, hq', q3, hj, q4, hz2⟩ := hJ
  have hqq : q' = q := by omega
  subst hqq
  subst hj
  generalize hlv : fLv (rP X i) (sdf X i) (X i 27).toNat = lv at hz2 hz ⊢
  have hb1 := evN_b (fEv lv (rG X i)) q' (by omega)
  have hb2 := cN_b (fEv lv (rG X i) q') y
  refine ⟨fun c1 => ⟨⟨by omega, by omega⟩, ⟨q' + 1, by omega, by omega, ?_⟩, by omega⟩, fun c1 => ?_⟩
  · have e : y = q' := by omega
    subst e
    exact hz2
  have lq : mHas (bS lv (X i 27).toNat) q' = lv q' := bS_has lv (by omega) (by omega)
  have ly : mHas (bS lv (X i 27).toNat) y = lv y := bS_has lv (by omega) (by omega)
  rw [lq, ly, (hl q' (by omega)).2.2, (hl y (by omega)).2.2]
  have st : cN (fEv lv (rG X i) q') (y + 1) = cN (fEv lv (rG X i) q') y + if fEv lv (rG X i) q' y then 1 else 0 := rfl
  have no : fEv lv (rG X i) q' y = false → z2 + 0 = evN (fEv lv (rG X i)) q' + cN (fEv lv (rG X i) q') (y + 1) := fun g => by
    rw [st, g, hz2]
    show _ = _ + (_ + 0)
    omega
  refine ⟨fun c2 => ⟨⟨by omega, by omega⟩, ⟨by omega, by omega⟩, ⟨q', y + 1, rfl, by omega, by omega, by omega, no ?_⟩, by omega⟩, fun c2 => ⟨fun c3 => ⟨⟨by omega, by omega⟩, ⟨by omega, by omega⟩, ⟨q', y + 1, rfl, by omega, by omega, by omega, no ?_⟩, by omega⟩, fun c3 => ⟨⟨by omega, by omega⟩, ⟨by omega, by omega⟩, fun c4 => ⟨⟨by omega, by omega⟩, ⟨by omega, by omega⟩, ⟨q', y + 1, rfl, by omega, by omega, by omega, no ?_⟩, by omega⟩, fun c4 => ⟨⟨by omega, by omega⟩, ⟨by omega, by omega⟩, ⟨q', y + 1, rfl, by omega, by omega, by omega, ?_⟩, by omega⟩⟩⟩⟩
  · unfold fEv
    rw [c2, Bool.false_and]
  · unfold fEv
    rw [c3, Bool.false_and, Bool.and_false]
  · unfold fEv
    rw [decide_eq_false c4, Bool.and_false, Bool.and_false]
  · have g : fEv lv (rG X i) q' y = true := by
      unfold fEv
      rw [c2, c3, decide_eq_true (Classical.not_not.mp c4)]
      rfl
    rw [st, g, hz2]
    show _ = _ + (_ + 1)
    omega
theorem c_X11_even {l : Launch} {D : va_G} {cy : Nat → ClassId} {bs N : Nat} {sa : Nat → Nat} {kd len : Nat → Nat} {X Y : Nat → Int → Int} {R : Nat → Int → Option Nat} {i : Nat} (hM : zM N kd len R i)  (hp : oH X Y i) : Met l yX11_even (.code yX11_even cX11_even 5 (some .int) :: zTB) (zRm 4 88) (zPc D cy bs sa N kd len X Y R [.ref (bs + (i))]) (zQi D cy bs N kd len (fun r st => r = evN (fEv (fLv (rP X i) (sdf X i) (X i 27).toNat) (rG X i)) (X i 27).toNat ∧ st = (X, Y, R))) 0 0 (zA bs) := w_X11_even hM  (v_X11_even  hp)
