/-! who is whole is sound; the top is whole -/
def oWh (x : Cx) (t : Cs) : Prop := (∀ k : Nat, k < xN x → mHas (t.1 3) k = true → xS x k = true) ∧ mHas (t.1 3) 0 = true ∧ ∃ p : Nat, t.1 5 = p ∧ p < xN x ∧ mHas (t.1 3) p = true
theorem aTw_w {w : Nat → Bool} {hc : Nat → Int} (h : ∀ a, hc a ≠ -1 → w (hc a).toNat = true) : ∀ d a, w a = true → w (aTw hc d a) = true
  | 0, _, h0 => h0
  | d + 1, a, h0 => by
    unfold aTw
    split
    · exact h0
    · rename_i g
      exact aTw_w h d _ (h a g)
theorem csTip_w {P : Nat → Nat} {W G : Nat → Int} {n : Nat} {tie : Int} {c k : Nat → Int} (h0 : mHas (c 3) 0 = true) : mHas (c 3) (csTip P W G n tie c k) = true := by
  unfold csTip sTip
  split
  · exact aHv_w (w := fun j => mHas (c 3) j) h0 n
  · exact aTw_w (w := fun j => mHas (c 3) j) (fun a g => aHc_w n g) n 0 h0
theorem oWh_C {x : Cx} {t : Cs} (hn : 0 < xN x) (h : oWh x t) : oWh x (csC x t) :=
  ⟨h.1, h.2.1, _, rfl, csTip_b hn, csTip_w (c := t.1) h.2.1⟩
theorem csMk_s {x : Cx} {t : Cs} (hn : xN x ≤ 15) (h : ∀ k : Nat, k < xN x → mHas (t.1 3) k = true → xS x k = true) : ∀ q, q ≤ xN x → ∀ k : Nat, k < xN x → mHas ((csMk x t q).1 3) k = true → xS x k = true
  | 0, _ => h
  | q + 1, hq => fun k hk g => by
    have ih := csMk_s hn h q (by omega)
    unfold csMk at g
    split at g
    · exact ih k hk g
    · split at g
      · rename_i c
        have g : mHas (zOr ((csMk x t q).1 3) (zShl 1 q)) k = true := g
        rw [mHas_set (by omega) (by omega), Bool.or_eq_true] at g
        rcases g with g | g
        · exact ih k hk g
        · have e := of_decide_eq_true g
          subst e
          unfold csWt at c
          simp only [Bool.and_eq_true] at c
          exact c.1.2.2
      · exact ih k hk g
theorem oWh_do {x : Cx} {t : Cs} {w v : Int} (h0 : 0 < xN x) (hn : xN x ≤ 15) (h : oWh x t) : oWh x (csDo x t w v) := by
  unfold csDo
  split
  · exact oWh_C h0 (t := (cU t.1 0 v, t.2)) h
  · split
    · exact h
    · refine oWh_C h0 (t := csMk x (cU (cU t.1 1 (zOr (t.1 1) (if w = 0 then zShl 1 v else 0))) 2 (zOr (t.1 2) (if w = 1 then zShl 1 v else 0)), t.2) (xN x)) ?_
      have f := csMk_far x (cU (cU t.1 1 (zOr (t.1 1) (if w = 0 then zShl 1 v else 0))) 2 (zOr (t.1 2) (if w = 1 then zShl 1 v else 0)), t.2) hn (xN x) (Nat.le_refl _)
      obtain ⟨h1, h2, p, h3, h4, h5⟩ := h
      refine ⟨csMk_s hn (t := (cU (cU t.1 1 (zOr (t.1 1) (if w = 0 then zShl 1 v else 0))) 2 (zOr (t.1 2) (if w = 1 then zShl 1 v else 0)), t.2)) h1 (xN x) (Nat.le_refl _), f.2.2 0 (by decide) h2, p, ?_, h4, f.2.2 p (by omega) h5⟩
      rw [f.1 5 (by decide) (by decide)]
      exact h3
theorem oWh_pl {x : Cx} {dw dv : Nat → Int} (h0 : 0 < xN x) (hn : xN x ≤ 15) : ∀ q k t, oWh x t → oWh x (csPl x dw dv q k t).2
  | 0, _, _, h => h
  | q + 1, k, t, h => by
    unfold csPl
    split
    · exact oWh_pl h0 hn q _ _ (oWh_do h0 hn h)
    · exact h
theorem oWh_I {x : Cx} {rho : Int} (h0 : 0 < xN x) (hn : xN x ≤ 15) (hs : xS x 0 = true) : oWh x (csI rho) :=
  ⟨fun k hk h => by
    have e := mHas_1 k (by omega) h
    subst e
    exact hs, by show mHas 1 0 = true; decide +kernel, 0, rfl, h0, by show mHas 1 0 = true; decide +kernel⟩
theorem sdf_0 {X : Nat → Int → Int} {i : Nat} : sdf X i 0 = true := by
  unfold sdf
  rw [show rS X i 0 = _ from pr_0]
  rfl
/-! WHAT A STATE TELLS -/
def csOr (P : Nat → Nat) (h : Int) (k : Nat) : Bool := decide (1 ≤ k) && (mHas h k && !mHas h (P k))
def csHt (P : Nat → Nat) (G : Nat → Int) (h : Int) : Nat → Nat
  | 0 => 0
  | q + 1 => if zAnd (wyP P q) (zXor h (-1)) = 0 ∧ G (csHt P G h q) < G q then q else csHt P G h q
theorem csHt_b {P : Nat → Nat} {G : Nat → Int} {h : Int} : ∀ q, csHt P G h q ≤ q - 1
  | 0 => Nat.le_refl _
  | q + 1 => by
    have := csHt_b (P := P) (G := G) (h := h) q
    unfold csHt
    split <;> omega
def rLd (X : Nat → Int → Int) (i : Nat) (k : Nat) (a : Int) : Int := (rS X i k).getD (fun _ => 0) a
def csSt (x : Cx) (L : Nat → Int → Int) (acc : Int) (t : Cs) (w : Int) : Int :=
  if 10 ≤ w then (if mIn (w - 10) 0 (acc - 1) then L (t.1 5).toNat (w - 10) else -1)
  else if w = 0 then t.1 5 else if w = 1 then sHg (xP x) (t.1 5).toNat else if w = 2 then t.1 3 else if w = 3 then bS (csOr (xP x) (t.1 1)) (xN x) else if w = 4 then t.1 6 else if w = 5 then t.1 7 else if w = 6 then t.1 0
  else if w = 7 then csHt (xP x) (xG x) (t.1 1) (xN x) else if w = 8 then zAnd (wyP (xP x) (csHt (xP x) (xG x) (t.1 1) (xN x))) (zXor (t.1 2) (-1)) else -1
abbrev cX11_orphans : ByteArray := prog_13_method_75_code
def yX11_orphans : MethodName := ⟨RX11, "orphans", "()I"⟩
theorem dX11_orphans_0 : decode cX11_orphans 0 = .ok (.iconst 0, 1) := by decide +kernel
theorem dX11_orphans_1 : decode cX11_orphans 1 = .ok (.istore_n 1, 1) := by decide +kernel
theorem dX11_orphans_2 : decode cX11_orphans 2 = .ok (.iconst 1, 1) := by decide +kernel
theorem dX11_orphans_3 : decode cX11_orphans 3 = .ok (.istore_n 2, 1) := by decide +kernel
theorem dX11_orphans_4 : decode cX11_orphans 4 = .ok (.iload_n 2, 1) := by decide +kernel
theorem dX11_orphans_5 : decode cX11_orphans 5 = .ok (.aload_n 0, 1) := by decide +kernel
theorem dX11_orphans_6 : decode cX11_orphans 6 = .ok (.getfield 255, 3) := by decide +kernel
theorem dX11_orphans_9 : decode cX11_orphans 9 = .ok (.if_icmp .ge 45, 3) := by decide +kernel
theorem dX11_orphans_12 : decode cX11_orphans 12 = .ok (.iload_n 1, 1) := by decide +kernel
theorem dX11_orphans_13 : decode cX11_orphans 13 = .ok (.aload_n 0, 1) := by decide +kernel
theorem dX11_orphans_14 : decode cX11_orphans 14 = .ok (.getfield 361, 3) := by decide +kernel
theorem dX11_orphans_17 : decode cX11_orphans 17 = .ok (.iload_n 2, 1) := by decide +kernel
theorem dX11_orphans_18 : decode cX11_orphans 18 = .ok (.invokestatic 92, 3) := by decide +kernel
theorem dX11_orphans_21 : decode cX11_orphans 21 = .ok (.ifCond .eq 24, 3) := by decide +kernel
theorem dX11_orphans_24 : decode cX11_orphans 24 = .ok (.aload_n 0, 1) := by decide +kernel
theorem dX11_orphans_25 : decode cX11_orphans 25 = .ok (.getfield 361, 3) := by decide +kernel
theorem dX11_orphans_28 : decode cX11_orphans 28 = .ok (.aload_n 0, 1) := by decide +kernel
theorem dX11_orphans_29 : decode cX11_orphans 29 = .ok (.iload_n 2, 1) := by decide +kernel
theorem dX11_orphans_30 : decode cX11_orphans 30 = .ok (.invokevirtual 264, 3) := by decide +kernel
theorem dX11_orphans_33 : decode cX11_orphans 33 = .ok (.invokestatic 92, 3) := by decide +kernel
theorem dX11_orphans_36 : decode cX11_orphans 36 = .ok (.ifCond .ne 9, 3) := by decide +kernel
theorem dX11_orphans_39 : decode cX11_orphans 39 = .ok (.iconst 1, 1) := by decide +kernel
theorem dX11_orphans_40 : decode cX11_orphans 40 = .ok (.iload_n 2, 1) := by decide +kernel
theorem dX11_orphans_41 : decode cX11_orphans 41 = .ok (.ishl, 1) := by decide +kernel
theorem dX11_orphans_42 : decode cX11_orphans 42 = .ok (.goto 4, 3) := by decide +kernel
theorem dX11_orphans_45 : decode cX11_orphans 45 = .ok (.iconst 0, 1) := by decide +kernel
theorem dX11_orphans_46 : decode cX11_orphans 46 = .ok (.ior, 1) := by decide +kernel
theorem dX11_orphans_47 : decode cX11_orphans 47 = .ok (.istore_n 1, 1) := by decide +kernel
theorem dX11_orphans_48 : decode cX11_orphans 48 = .ok (.iinc 2 1, 3) := by decide +kernel
theorem dX11_orphans_51 : decode cX11_orphans 51 = .ok (.goto (-47), 3) := by decide +kernel
theorem dX11_orphans_54 : decode cX11_orphans 54 = .ok (.iload_n 1, 1) := by decide +kernel
theorem dX11_orphans_55 : decode cX11_orphans 55 = .ok (.ireturn, 1) := by decide +kernel
def F_X11_orphans (i : Nat) (X Y : Nat → Int → Int) (R : Nat → Int → Option Nat)  : Prop := (∀ i j, rI (X i j)) → (∀ i j, rL (Y i j)) → (∃ q : Nat, (1 : Int) = q ∧ 1 ≤ q ∧ (1 : Int) ≤ X i 27 ∧ (0 : Int) = bS (csOr (rP X i) (X i 41)) q) ∧ (∀ (z : Int) (k : Int), rI z → rI k → (∃ q : Nat, k = q ∧ 1 ≤ q ∧ k ≤ X i 27 ∧ z = bS (csOr (rP X i) (X i 41)) q) → ((((X (i) 27) ≤ k) → (z = bS (csOr (rP X i) (X i 41)) (X i 27).toNat)) ∧ ((¬ ((X (i) 27) ≤ k)) → ((((mHas (X (i) 41) (k)) = false) → ((rI (k + 1)) ∧ (∃ q : Nat, k + 1 = q ∧ 1 ≤ q ∧ k + 1 ≤ X i 27 ∧ zOr (z) (0) = bS (csOr (rP X i) (X i 41)) q) ∧ (((X i 27 - (k + 1)).toNat) < ((X i 27 - (k)).toNat)))) ∧ (((mHas (X (i) 41) (k)) = true) → ((oC X i ∧ 0 ≤ k ∧ k ≤ 14) ∧ (rI (mPar X i (k)) → ((((mHas (X (i) 41) (mPar X i (k))) = true) → ((rI (k + 1)) ∧ (∃ q : Nat, k + 1 = q ∧ 1 ≤ q ∧ k + 1 ≤ X i 27 ∧ zOr (z) (0) = bS (csOr (rP X i) (X i 41)) q) ∧ (((X i 27 - (k + 1)).toNat) < ((X i 27 - (k)).toNat)))) ∧ (((mHas (X (i) 41) (mPar X i (k))) = false) → ((rI (k + 1)) ∧ (∃ q : Nat, k + 1 = q ∧ 1 ≤ q ∧ k + 1 ≤ X i 27 ∧ zOr (z) (zShl (1) (k)) = bS (csOr (rP X i) (X i 41)) q) ∧ (((X i 27 - (k + 1)).toNat) < ((X i 27 - (k)).toNat))))))))))))
set_option maxHeartbeats 4000000 in
set_option maxRecDepth 100000 in
theorem w_X11_orphans {l : Launch} {D : va_G} {cy : Nat → ClassId} {bs N : Nat} {sa : Nat → Nat} {kd len : Nat → Nat} {X Y : Nat → Int → Int} {R : Nat → Int → Option Nat} {i : Nat} (hM : zM N kd len R i)  (hF : F_X11_orphans i X Y R ) : Met l yX11_orphans (.code yX11_orphans cX11_orphans 3 (some .int) :: zTB) (zRm 2 43) (zPc D cy bs sa N kd len X Y R [.ref (bs + (i))]) (zQi D cy bs N kd len (fun r st => r = bS (csOr (rP X i) (X i 41)) (X i 27).toNat ∧ st = (X, Y, R))) 0 0 (zA bs) := by
  refine zstart (by decide) (Nat.le_of_ble_eq_true rfl) ?_
  intro p e s m args below meth c ls C hE hH hr hlk hnm hl hargs
  have hF := hF hH.2.2.1 hH.2.2.2
  have hS : va_S (zA bs) s.heap s.heap [] := va_S.rf
  have hl : lv_has ls 3 [(0, .ref (bs + (i)))] := hl
  refine zd_iconst C dX11_orphans_0 ?_
  refine lv_istore_n (lv' := [(1, .int (zI (0))), (0, .ref (bs + (i)))]) C.1 C.2.1 dX11_orphans_1 rfl hl (by decide) rfl (fun ls hl => ?_)
  refine zd_iconst C dX11_orphans_2 ?_
  refine lv_istore_n (lv' := [(2, .int (zI (1))), (1, .int (zI (0))), (0, .ref (bs + (i)))]) C.1 C.2.1 dX11_orphans_3 rfl hl (by decide) rfl (fun ls hl => ?_)
  obtain ⟨hI1, hF⟩ := hF
  have L1 : ∀ (fu : Nat) (z : Int) (k : Int), rI z → rI k → (∃ q : Nat, k = q ∧ 1 ≤ q ∧ k ≤ X i 27 ∧ z = bS (csOr (rP X i) (X i 41)) q) → ((X i 27 - (k)).toNat) < fu → ∀ (H : Heap) (locs : List Loc) (ls : Array Slot), zH D cy bs N kd len X Y R H → va_S (zA bs) s.heap H locs → lv_has ls 3 [(1, .int (zI (z))), (2, .int (zI (k))), (0, .ref (bs + (i)))] → W p l e (zRm 2 43) s m args below meth c H locs 0 0 (MQ below (zQi D cy bs N kd len (fun r st => r = bS (csOr (rP X i) (X i 41)) (X i 27).toNat ∧ st = (X, Y, R))) args s 0 0 (zA bs)) (F0 m 4 ls []) := by
    intro fu
    induction fu with
    | zero => intro z k _ _ _ hmu; exact absurd hmu (Nat.not_lt_zero _)
    | succ fu ih1 =>
      intro z k hz hk hI hmu1 H locs ls hH hS hl
      have hF := hF z k hz hk  hI
      refine lv_iload_n C.1 C.2.1 dX11_orphans_4 rfl (lv_at hl 1 rfl) ?_
      refine lv_aload_n C.1 C.2.1 dX11_orphans_5 rfl (lv_at hl 2 rfl) ?_
      refine zg11_27 C hH (zM_n0 hM) (zM_k0 hM) q_1314 dX11_orphans_6 ?_
      refine zd_icmp_ge C hk (hH.2.2.1 _ _) 54 dX11_orphans_9 (by decide) (fun c2 => ?_) (fun c2 => ?_)
      · have hF := hF.1 c2
        refine lv_iload_n C.1 C.2.1 dX11_orphans_54 rfl (lv_at hl 0 rfl) ?_
        exact zd_iret C hr hlk hH hS hz (⟨hF, rfl⟩) dX11_orphans_55
      · have hF := hF.2 c2
        refine lv_iload_n C.1 C.2.1 dX11_orphans_12 rfl (lv_at hl 0 rfl) ?_
        refine lv_aload_n C.1 C.2.1 dX11_orphans_13 rfl (lv_at hl 2 rfl) ?_
        refine zg11_41 C hH (zM_n0 hM) (zM_k0 hM) q_1328 dX11_orphans_14 ?_
        refine lv_iload_n C.1 C.2.1 dX11_orphans_17 rfl (lv_at hl 1 rfl) ?_
        refine zgoi (zrunS (As := [.int (zI (X (i) 41)), .int (zI (k))]) (rest := [.int (zI (z))]) C hE hH hS hl.1 (c_X11_has (l := l)  (X (i) 41) (hH.2.2.1 _ _) (k) hk) k_RX11_92 ⟨Nat.le_of_ble_eq_true rfl, Nat.le_of_ble_eq_true rfl⟩ rfl (Nat.le_of_ble_eq_true rfl) dX11_orphans_18 ⟨Nat.zero_le _, Nat.zero_le _⟩) hS (fun rq Xq Yq Rq H locs hrq hq hH hS => ?_)
        obtain ⟨h91, h92⟩ := hq
        have h93 : Xq = X := congrArg (fun z => z.1) h92
        have h94 : Yq = Y := congrArg (fun z => z.2.1) h92
        have h95 : Rq = R := congrArg (fun z => z.2.2) h92
        rw [h93, h94, h95] at hH
        subst h91
        refine zd_ifB_eq C 45 dX11_orphans_21 (by decide) (fun c3 => ?_) (fun c3 => ?_)
        · have hF := hF.1 c3
          refine zd_iconst C dX11_orphans_45 ?_
          refine zd_ior C dX11_orphans_46 ?_
          refine lv_istore_n (lv' := [(1, .int (zI (zOr (z) (0)))), (2, .int (zI (k))), (0, .ref (bs + (i)))]) C.1 C.2.1 dX11_orphans_47 rfl hl (by decide) rfl (fun ls hl => ?_)
          refine zd_iinc (k := 1) (lv' := [(2, .int (zI (k + 1))), (1, .int (zI (zOr (z) (0)))), (0, .ref (bs + (i)))]) C hl rfl dX11_orphans_48 (by decide) rfl (fun ls hl => ?_)
          refine lv_goto (tgt := 4) C.1 C.2.1 dX11_orphans_51 (by decide) ?_
          obtain ⟨o4, hF⟩ := hF
          exact ih1 (zOr (z) (0)) (k + 1) (zI_rg _) o4 hF.1 (Nat.lt_of_lt_of_le hF.2 (Nat.le_of_lt_succ hmu1)) _ _ _ hH hS (lv_sub hl [1, 0, 2] rfl)
        · have hF := hF.2 c3
          refine lv_aload_n C.1 C.2.1 dX11_orphans_24 rfl (lv_at hl 2 rfl) ?_
          refine zg11_41 C hH (zM_n0 hM) (zM_k0 hM) q_1328 dX11_orphans_25 ?_
          refine lv_aload_n C.1 C.2.1 dX11_orphans_28 rfl (lv_at hl 2 rfl) ?_
          refine lv_iload_n C.1 C.2.1 dX11_orphans_29 rfl (lv_at hl 1 rfl) ?_
          obtain ⟨o5, hF⟩ := hF
          refine zgoi (zrunV (As := [.int (zI (k))]) (rest := [.int (zI (X (i) 41)), .int (zI (z))]) C hE hH hS hl.1 (c_X11_parentOf (l := l) hM (k) hk o5) k_RX11_264 ⟨Nat.le_of_ble_eq_true rfl, Nat.le_of_ble_eq_true rfl⟩ (zM_n0 hM) (zM_k0 hM) rfl rfl rfl (Nat.le_of_ble_eq_true rfl) dX11_orphans_30 ⟨Nat.zero_le _, Nat.zero_le _⟩) hS (fun rq Xq Yq Rq H locs hrq hq hH hS => ?_)
          obtain ⟨h91, h92⟩ := hq
          have h93 : Xq = X := congrArg (fun z => z.1) h92
          have h94 : Yq = Y := congrArg (fun z => z.2.1) h92
          have h95 : Rq = R := congrArg (fun z => z.2.2) h92
          rw [h93, h94, h95] at hH
          subst h91
          have hr6 := hrq
          have hF := hF hr6
          refine zgoi (zrunS (As := [.int (zI (X (i) 41)), .int (zI (mPar X i (k)))]) (rest := [.int (zI (z))]) C hE hH hS hl.1 (c_X11_has (l := l)  (X (i) 41) (hH.2.2.1 _ _) (mPar X i (k)) hr6) k_RX11_92 ⟨Nat.le_of_ble_eq_true rfl, Nat.le_of_ble_eq_true rfl⟩ rfl (Nat.le_of_ble_eq_true rfl) dX11_orphans_33 ⟨Nat.zero_le _, Nat.zero_le _⟩) hS (fun rq Xq Yq Rq H locs hrq hq hH hS => ?_)
          obtain ⟨h91, h92⟩ := hq
          have h93 : Xq = X := congrArg (fun z => z.1) h92
          have h94 : Yq = Y := congrArg (fun z => z.2.1) h92
          have h95 : Rq = R := congrArg (fun z => z.2.2) h92
          rw [h93, h94, h95] at hH
          subst h91
          refine zd_ifB_ne C 45 dX11_orphans_36 (by decide) (fun c7 => ?_) (fun c7 => ?_)
          · have hF := hF.1 c7
            refine zd_iconst C dX11_orphans_45 ?_
            refine zd_ior C dX11_orphans_46 ?_
            refine lv_istore_n (lv' := [(1, .int (zI (zOr (z) (0)))), (2, .int (zI (k))), (0, .ref (bs + (i)))]) C.1 C.2.1 dX11_orphans_47 rfl hl (by decide) rfl (fun ls hl => ?_)
            refine zd_iinc (k := 1) (lv' := [(2, .int (zI (k + 1))), (1, .int (zI (zOr (z) (0)))), (0, .ref (bs + (i)))]) C hl rfl dX11_orphans_48 (by decide) rfl (fun ls hl => ?_)
            refine lv_goto (tgt := 4) C.1 C.2.1 dX11_orphans_51 (by decide) ?_
            obtain ⟨o8, hF⟩ := hF
            exact ih1 (zOr (z) (0)) (k + 1) (zI_rg _) o8 hF.1 (Nat.lt_of_lt_of_le hF.2 (Nat.le_of_lt_succ hmu1)) _ _ _ hH hS (lv_sub hl [1, 0, 2] rfl)
          · have hF := hF.2 c7
            refine zd_iconst C dX11_orphans_39 ?_
            refine lv_iload_n C.1 C.2.1 dX11_orphans_40 rfl (lv_at hl 1 rfl) ?_
            refine zd_ishl C dX11_orphans_41 ?_
            refine lv_goto (tgt := 46) C.1 C.2.1 dX11_orphans_42 (by decide) ?_
            refine zd_ior C dX11_orphans_46 ?_
            refine lv_istore_n (lv' := [(1, .int (zI (zOr (z) (zShl (1) (k))))), (2, .int (zI (k))), (0, .ref (bs + (i)))]) C.1 C.2.1 dX11_orphans_47 rfl hl (by decide) rfl (fun ls hl => ?_)
            refine zd_iinc (k := 1) (lv' := [(2, .int (zI (k + 1))), (1, .int (zI (zOr (z) (zShl (1) (k))))), (0, .ref (bs + (i)))]) C hl rfl dX11_orphans_48 (by decide) rfl (fun ls hl => ?_)
            refine lv_goto (tgt := 4) C.1 C.2.1 dX11_orphans_51 (by decide) ?_
            obtain ⟨o9, hF⟩ := hF
            exact ih1 (zOr (z) (zShl (1) (k))) (k + 1) (zI_rg _) o9 hF.1 (Nat.lt_of_lt_of_le hF.2 (Nat.le_of_lt_succ hmu1)) _ _ _ hH hS (lv_sub hl [1, 0, 2] rfl)
  exact L1 (((X i 27 - ((1 : Int))).toNat) + 1) ((0 : Int)) ((1 : Int)) (by decide) (by decide) hI1 (Nat.lt_succ_self _) _ _ _ hH hS (lv_sub hl [1, 0, 2] rfl)
theorem v_X11_orphans {X Y : Nat → Int → Int} {R : Nat → Int → Option Nat} {i : Nat}  (hp : oH X Y i) : F_X11_orphans i X Y R  := by
  unfold F_X11_orphans
  intro hX hY
  have h := hp
  have h27 := h.1.2.2.1
  have hbs := h.1.2.2.2
  refine ⟨⟨1, rfl, by decide, by omega, rfl⟩, fun z k zr kr hI => ?_⟩
  obtain ⟨q, hq, q1, q2, hz⟩ := hI
  subst hq
  refine ⟨fun c => ?_, fun c => ?_⟩
  · rw [hz, show (X i 27).toNat = q by omega]
  have ep : mPar X i q = rP X i q := rP_c hbs.1 q1 (by omega)
  have o1 : decide (1 ≤ q) = true := decide_eq_true q1
  have st : bS (csOr (rP X i) (X i 41)) (q + 1) = if csOr (rP X i) (X i 41) q then zOr (bS (csOr (rP X i) (X i 41)) q) (zShl 1 q) else bS (csOr (rP X i) (X i 41)) q := rfl
  have z0 : zOr z 0 = z := zb_ext (zI_rg _) zr (fun j _ => by rw [zb_or, zb_0, Bool.or_false])
  have no : csOr (rP X i) (X i 41) q = false → (rI ((q : Int) + 1)) ∧ (∃ y : Nat, (q : Int) + 1 = y ∧ 1 ≤ y ∧ (q : Int) + 1 ≤ X i 27 ∧ zOr z 0 = bS (csOr (rP X i) (X i 41)) y) ∧ ((X i 27 - ((q : Int) + 1)).toNat < (X i 27 - q).toNat) := fun g => by
    refine ⟨⟨by omega, by omega⟩, ⟨q + 1, by omega, by omega, by omega, ?_⟩, by omega⟩
    rw [st, g, z0]
    exact hz
  refine ⟨fun c1 => no ?_, fun c1 => ⟨⟨hbs.1.1, by omega, by omega⟩, fun _ => ?_⟩⟩
  · unfold csOr
    rw [c1, Bool.false_and, Bool.and_false]
  · rw [ep]
    refine ⟨fun c2 => no ?_, fun c2 => ⟨⟨by omega, by omega⟩, ⟨q + 1, by omega, by omega, by omega, ?_⟩, by omega⟩⟩
    · unfold csOr
      rw [c1, c2, Bool.true_and, Bool.not_true, Bool.and_false]
    · have e : csOr (rP X i) (X i 41) q = true := by
        unfold csOr
        rw [c1, c2, o1]
        rfl
      rw [st, e, hz]
      rfl
theorem c_X11_orphans {l : Launch} {D : va_G} {cy : Nat → ClassId} {bs N : Nat} {sa : Nat → Nat} {kd len : Nat → Nat} {X Y : Nat → Int → Int} {R : Nat → Int → Option Nat} {i : Nat} (hM : zM N kd len R i)  (hp : oH X Y i) : Met l yX11_orphans (.code yX11_orphans cX11_orphans 3 (some .int) :: zTB) (zRm 2 43) (zPc D cy bs sa N kd len X Y R [.ref (bs + (i))]) (zQi D cy bs N kd len (fun r st => r = bS (csOr (rP X i) (X i 41)) (X i 27).toNat ∧ st = (X, Y, R))) 0 0 (zA bs) := w_X11_orphans hM  (v_X11_orphans  hp)
abbrev cX11_headTip : ByteArray := prog_13_method_76_code
def yX11_headTip : MethodName := ⟨RX11, "headTip", "()I"⟩
theorem dX11_headTip_0 : decode cX11_headTip 0 = .ok (.iconst 0, 1) := by decide +kernel
theorem dX11_headTip_1 : decode cX11_headTip 1 = .ok (.istore_n 1, 1) := by decide +kernel
theorem dX11_headTip_2 : decode cX11_headTip 2 = .ok (.iconst 1, 1) := by decide +kernel
theorem dX11_headTip_3 : decode cX11_headTip 3 = .ok (.istore_n 2, 1) := by decide +kernel
theorem dX11_headTip_4 : decode cX11_headTip 4 = .ok (.iload_n 2, 1) := by decide +kernel
theorem dX11_headTip_5 : decode cX11_headTip 5 = .ok (.aload_n 0, 1) := by decide +kernel
theorem dX11_headTip_6 : decode cX11_headTip 6 = .ok (.getfield 255, 3) := by decide +kernel
theorem dX11_headTip_9 : decode cX11_headTip 9 = .ok (.if_icmp .ge 56, 3) := by decide +kernel
theorem dX11_headTip_12 : decode cX11_headTip 12 = .ok (.aload_n 0, 1) := by decide +kernel
theorem dX11_headTip_13 : decode cX11_headTip 13 = .ok (.iload_n 2, 1) := by decide +kernel
theorem dX11_headTip_14 : decode cX11_headTip 14 = .ok (.invokevirtual 382, 3) := by decide +kernel
theorem dX11_headTip_17 : decode cX11_headTip 17 = .ok (.aload_n 0, 1) := by decide +kernel
theorem dX11_headTip_18 : decode cX11_headTip 18 = .ok (.getfield 361, 3) := by decide +kernel
theorem dX11_headTip_21 : decode cX11_headTip 21 = .ok (.iconst (-1), 1) := by decide +kernel
theorem dX11_headTip_22 : decode cX11_headTip 22 = .ok (.ixor, 1) := by decide +kernel
theorem dX11_headTip_23 : decode cX11_headTip 23 = .ok (.iand, 1) := by decide +kernel
theorem dX11_headTip_24 : decode cX11_headTip 24 = .ok (.ifCond .ne 7, 3) := by decide +kernel
theorem dX11_headTip_27 : decode cX11_headTip 27 = .ok (.iconst 1, 1) := by decide +kernel
theorem dX11_headTip_28 : decode cX11_headTip 28 = .ok (.goto 4, 3) := by decide +kernel
theorem dX11_headTip_31 : decode cX11_headTip 31 = .ok (.iconst 0, 1) := by decide +kernel
theorem dX11_headTip_32 : decode cX11_headTip 32 = .ok (.istore_n 3, 1) := by decide +kernel
theorem dX11_headTip_33 : decode cX11_headTip 33 = .ok (.iload_n 3, 1) := by decide +kernel
theorem dX11_headTip_34 : decode cX11_headTip 34 = .ok (.ifCond .eq 23, 3) := by decide +kernel
theorem dX11_headTip_37 : decode cX11_headTip 37 = .ok (.aload_n 0, 1) := by decide +kernel
theorem dX11_headTip_38 : decode cX11_headTip 38 = .ok (.getfield 54, 3) := by decide +kernel
theorem dX11_headTip_41 : decode cX11_headTip 41 = .ok (.iload_n 2, 1) := by decide +kernel
theorem dX11_headTip_42 : decode cX11_headTip 42 = .ok (.laload, 1) := by decide +kernel
theorem dX11_headTip_43 : decode cX11_headTip 43 = .ok (.aload_n 0, 1) := by decide +kernel
theorem dX11_headTip_44 : decode cX11_headTip 44 = .ok (.getfield 54, 3) := by decide +kernel
theorem dX11_headTip_47 : decode cX11_headTip 47 = .ok (.iload_n 1, 1) := by decide +kernel
theorem dX11_headTip_48 : decode cX11_headTip 48 = .ok (.laload, 1) := by decide +kernel
theorem dX11_headTip_49 : decode cX11_headTip 49 = .ok (.lcmp, 1) := by decide +kernel
theorem dX11_headTip_50 : decode cX11_headTip 50 = .ok (.ifCond .le 7, 3) := by decide +kernel
theorem dX11_headTip_53 : decode cX11_headTip 53 = .ok (.iload_n 2, 1) := by decide +kernel
theorem dX11_headTip_54 : decode cX11_headTip 54 = .ok (.goto 4, 3) := by decide +kernel
theorem dX11_headTip_57 : decode cX11_headTip 57 = .ok (.iload_n 1, 1) := by decide +kernel
theorem dX11_headTip_58 : decode cX11_headTip 58 = .ok (.istore_n 1, 1) := by decide +kernel
theorem dX11_headTip_59 : decode cX11_headTip 59 = .ok (.iinc 2 1, 3) := by decide +kernel
theorem dX11_headTip_62 : decode cX11_headTip 62 = .ok (.goto (-58), 3) := by decide +kernel
theorem dX11_headTip_65 : decode cX11_headTip 65 = .ok (.iload_n 1, 1) := by decide +kernel
theorem dX11_headTip_66 : decode cX11_headTip 66 = .ok (.ireturn, 1) := by decide +kernel
def F_X11_headTip (i : Nat) (X Y : Nat → Int → Int) (R : Nat → Int → Option Nat)  : Prop := (∀ i j, rI (X i j)) → (∀ i j, rL (Y i j)) → (∃ q : Nat, (1 : Int) = q ∧ 1 ≤ q ∧ (1 : Int) ≤ X i 27 ∧ (0 : Int) = ((csHt (rP X i) (rG X i) (X i 41) q : Nat) : Int)) ∧ (∀ (best : Int) (k : Int), rI best → rI k → (∃ q : Nat, k = q ∧ 1 ≤ q ∧ k ≤ X i 27 ∧ best = ((csHt (rP X i) (rG X i) (X i 41) q : Nat) : Int)) → ((((X (i) 27) ≤ k) → (best = ((csHt (rP X i) (rG X i) (X i 41) (X i 27).toNat : Nat) : Int))) ∧ ((¬ ((X (i) 27) ≤ k)) → ((∃ n : Nat, oB X i n ∧ 0 ≤ k ∧ k ≤ n) ∧ (rI (rWy X i (k).toNat) → (((¬ (zAnd (rWy X i (k).toNat) (zXor (X (i) 41) ((-1)))) = 0) → ((rI (k + 1)) ∧ (∃ q : Nat, k + 1 = q ∧ 1 ≤ q ∧ k + 1 ≤ X i 27 ∧ best = ((csHt (rP X i) (rG X i) (X i 41) q : Nat) : Int)) ∧ (((X i 27 - (k + 1)).toNat) < ((X i 27 - (k)).toNat)))) ∧ ((¬ (¬ (zAnd (rWy X i (k).toNat) (zXor (X (i) 41) ((-1)))) = 0)) → ((0 ≤ k ∧ k < 15) ∧ ((0 ≤ best ∧ best < 15) ∧ ((((Y (i + 15) (k)) ≤ (Y (i + 15) (best))) → ((rI (k + 1)) ∧ (∃ q : Nat, k + 1 = q ∧ 1 ≤ q ∧ k + 1 ≤ X i 27 ∧ best = ((csHt (rP X i) (rG X i) (X i 41) q : Nat) : Int)) ∧ (((X i 27 - (k + 1)).toNat) < ((X i 27 - (k)).toNat)))) ∧ ((¬ ((Y (i + 15) (k)) ≤ (Y (i + 15) (best)))) → ((rI (k + 1)) ∧ (∃ q : Nat, k + 1 = q ∧ 1 ≤ q ∧ k + 1 ≤ X i 27 ∧ k = ((csHt (rP X i) (rG X i) (X i 41) q : Nat) : Int)) ∧ (((X i 27 - (k + 1)).toNat) < ((X i 27 - (k)).toNat))))))))))))))
set_option maxHeartbeats 4000000 in
set_option maxRecDepth 100000 in
theorem w_X11_headTip {l : Launch} {D : va_G} {cy : Nat → ClassId} {bs N : Nat} {sa : Nat → Nat} {kd len : Nat → Nat} {X Y : Nat → Int → Int} {R : Nat → Int → Option Nat} {i : Nat} (hM : zM N kd len R i)  (hF : F_X11_headTip i X Y R ) : Met l yX11_headTip (.code yX11_headTip cX11_headTip 4 (some .int) :: zTB) (zRm 3 66) (zPc D cy bs sa N kd len X Y R [.ref (bs + (i))]) (zQi D cy bs N kd len (fun r st => r = ((csHt (rP X i) (rG X i) (X i 41) (X i 27).toNat : Nat) : Int) ∧ st = (X, Y, R))) 0 0 (zA bs) := by
  refine zstart (by decide) (Nat.le_of_ble_eq_true rfl) ?_
  intro p e s m args below meth c ls C hE hH hr hlk hnm hl hargs
  have hF := hF hH.2.2.1 hH.2.2.2
  have hS : va_S (zA bs) s.heap s.heap [] := va_S.rf
  have hl : lv_has ls 4 [(0, .ref (bs + (i)))] := hl
  refine zd_iconst C dX11_headTip_0 ?_
  refine lv_istore_n (lv' := [(1, .int (zI (0))), (0, .ref (bs + (i)))]) C.1 C.2.1 dX11_headTip_1 rfl hl (by decide) rfl (fun ls hl => ?_)
  refine zd_iconst C dX11_headTip_2 ?_
  refine lv_istore_n (lv' := [(2, .int (zI (1))), (1, .int (zI (0))), (0, .ref (bs + (i)))]) C.1 C.2.1 dX11_headTip_3 rfl hl (by decide) rfl (fun ls hl => ?_)
  obtain ⟨hI1, hF⟩ := hF
  have L1 : ∀ (fu : Nat) (best : Int) (k : Int), rI best → rI k → (∃ q : Nat, k = q ∧ 1 ≤ q ∧ k ≤ X i 27 ∧ best = ((csHt (rP X i) (rG X i) (X i 41) q : Nat) : Int)) → ((X i 27 - (k)).toNat) < fu → ∀ (H : Heap) (locs : List Loc) (ls : Array Slot), zH D cy bs N kd len X Y R H → va_S (zA bs) s.heap H locs → lv_has ls 4 [(1, .int (zI (best))), (2, .int (zI (k))), (0, .ref (bs + (i)))] → W p l e (zRm 3 66) s m args below meth c H locs 0 0 (MQ below (zQi D cy bs N kd len (fun r st => r = ((csHt (rP X i) (rG X i) (X i 41) (X i 27).toNat : Nat) : Int) ∧ st = (X, Y, R))) args s 0 0 (zA bs)) (F0 m 4 ls []) := by
    intro fu
    induction fu with
    | zero => intro best k _ _ _ hmu; exact absurd hmu (Nat.not_lt_zero _)
    | succ fu ih1 =>
      intro best k hbest hk hI hmu1 H locs ls hH hS hl
      have hF := hF best k hbest hk  hI
      refine lv_iload_n C.1 C.2.1 dX11_headTip_4 rfl (lv_at hl 1 rfl) ?_
      refine lv_aload_n C.1 C.2.1 dX11_headTip_5 rfl (lv_at hl 2 rfl) ?_
      refine zg11_27 C hH (zM_n0 hM) (zM_k0 hM) q_1314 dX11_headTip_6 ?_
      refine zd_icmp_ge C hk (hH.2.2.1 _ _) 65 dX11_headTip_9 (by decide) (fun c2 => ?_) (fun c2 => ?_)
      · have hF := hF.1 c2
        refine lv_iload_n C.1 C.2.1 dX11_headTip_65 rfl (lv_at hl 0 rfl) ?_
        exact zd_iret C hr hlk hH hS hbest (⟨hF, rfl⟩) dX11_headTip_66
      · have hF := hF.2 c2
        refine lv_aload_n C.1 C.2.1 dX11_headTip_12 rfl (lv_at hl 2 rfl) ?_
        refine lv_iload_n C.1 C.2.1 dX11_headTip_13 rfl (lv_at hl 1 rfl) ?_
        obtain ⟨o3, hF⟩ := hF
        refine zgoi (zrunV (As := [.int (zI (k))]) (rest := []) C hE hH hS hl.1 (c_X11_wayTo (l := l) hM (k) hk o3) k_RX11_382 ⟨Nat.le_of_ble_eq_true rfl, Nat.le_of_ble_eq_true rfl⟩ (zM_n0 hM) (zM_k0 hM) rfl rfl rfl (Nat.le_of_ble_eq_true rfl) dX11_headTip_14 ⟨Nat.zero_le _, Nat.zero_le _⟩) hS (fun rq Xq Yq Rq H locs hrq hq hH hS => ?_)
        obtain ⟨h91, h92⟩ := hq
        have h93 : Xq = X := congrArg (fun z => z.1) h92
        have h94 : Yq = Y := congrArg (fun z => z.2.1) h92
        have h95 : Rq = R := congrArg (fun z => z.2.2) h92
        rw [h93, h94, h95] at hH
        subst h91
        have hr4 := hrq
        have hF := hF hr4
        refine lv_aload_n C.1 C.2.1 dX11_headTip_17 rfl (lv_at hl 2 rfl) ?_
        refine zg11_41 C hH (zM_n0 hM) (zM_k0 hM) q_1328 dX11_headTip_18 ?_
        refine zd_iconst C dX11_headTip_21 ?_
        refine zd_ixor C dX11_headTip_22 ?_
        refine zd_iand C dX11_headTip_23 ?_
        refine zd_if_ne C (zI_rg _) 31 dX11_headTip_24 (by decide) (fun c5 => ?_) (fun c5 => ?_)
        · have hF := hF.1 c5
          refine zd_iconst C dX11_headTip_31 ?_
          refine lv_istore_n (lv' := [(3, .int (zI (0))), (1, .int (zI (best))), (2, .int (zI (k))), (0, .ref (bs + (i)))]) C.1 C.2.1 dX11_headTip_32 rfl hl (by decide) rfl (fun ls hl => ?_)
          refine lv_iload_n C.1 C.2.1 dX11_headTip_33 rfl (lv_at hl 0 rfl) ?_
          refine zd_if_eq C (by decide) 57 dX11_headTip_34 (by decide) (fun c6 => ?_) (fun c6 => ?_)
          · refine lv_iload_n C.1 C.2.1 dX11_headTip_57 rfl (lv_at hl 1 rfl) ?_
            refine lv_istore_n (lv' := [(1, .int (zI (best))), (3, .int (zI (0))), (2, .int (zI (k))), (0, .ref (bs + (i)))]) C.1 C.2.1 dX11_headTip_58 rfl hl (by decide) rfl (fun ls hl => ?_)
            refine zd_iinc (k := 2) (lv' := [(2, .int (zI (k + 1))), (1, .int (zI (best))), (3, .int (zI (0))), (0, .ref (bs + (i)))]) C hl rfl dX11_headTip_59 (by decide) rfl (fun ls hl => ?_)
            refine lv_goto (tgt := 4) C.1 C.2.1 dX11_headTip_62 (by decide) ?_
            obtain ⟨o7, hF⟩ := hF
            exact ih1 (best) (k + 1) hbest o7 hF.1 (Nat.lt_of_lt_of_le hF.2 (Nat.le_of_lt_succ hmu1)) _ _ _ hH hS (lv_sub hl [1, 0, 3] rfl)
          · exact absurd (by decide) c6
        · have hF := hF.2 c5
          refine zd_iconst C dX11_headTip_27 ?_
          refine lv_goto (tgt := 32) C.1 C.2.1 dX11_headTip_28 (by decide) ?_
          refine lv_istore_n (lv' := [(3, .int (zI (1))), (1, .int (zI (best))), (2, .int (zI (k))), (0, .ref (bs + (i)))]) C.1 C.2.1 dX11_headTip_32 rfl hl (by decide) rfl (fun ls hl => ?_)
          refine lv_iload_n C.1 C.2.1 dX11_headTip_33 rfl (lv_at hl 0 rfl) ?_
          refine zd_if_eq C (by decide) 57 dX11_headTip_34 (by decide) (fun c8 => ?_) (fun c8 => ?_)
          · exact absurd c8 (by decide)
          · refine lv_aload_n C.1 C.2.1 dX11_headTip_37 rfl (lv_at hl 3 rfl) ?_
            refine zg11_33 C hH (zM_n0 hM) (zM_k0 hM) q_1320 (zM_r15 hM) dX11_headTip_38 ?_
            refine lv_iload_n C.1 C.2.1 dX11_headTip_41 rfl (lv_at hl 2 rfl) ?_
            obtain ⟨o9, hF⟩ := hF
            refine zd_lald C hH (zM_n15 hM) (zM_k15 hM) o9.1 (by rw [zM_l15 hM]; exact o9.2) (by rw [zM_l15 hM]; decide) dX11_headTip_42 ?_
            refine lv_aload_n C.1 C.2.1 dX11_headTip_43 rfl (lv_at hl 3 rfl) ?_
            refine zg11_33 C hH (zM_n0 hM) (zM_k0 hM) q_1320 (zM_r15 hM) dX11_headTip_44 ?_
            refine lv_iload_n C.1 C.2.1 dX11_headTip_47 rfl (lv_at hl 1 rfl) ?_
            obtain ⟨o10, hF⟩ := hF
            refine zd_lald C hH (zM_n15 hM) (zM_k15 hM) o10.1 (by rw [zM_l15 hM]; exact o10.2) (by rw [zM_l15 hM]; decide) dX11_headTip_48 ?_
            refine zd_lcmp C (hH.2.2.2 _ _) (hH.2.2.2 _ _) dX11_headTip_49 ?_
            refine zd_ifL_le C 57 dX11_headTip_50 (by decide) (fun c11 => ?_) (fun c11 => ?_)
            · have hF := hF.1 c11
              refine lv_iload_n C.1 C.2.1 dX11_headTip_57 rfl (lv_at hl 1 rfl) ?_
              refine lv_istore_n (lv' := [(1, .int (zI (best))), (3, .int (zI (1))), (2, .int (zI (k))), (0, .ref (bs + (i)))]) C.1 C.2.1 dX11_headTip_58 rfl hl (by decide) rfl (fun ls hl => ?_)
              refine zd_iinc (k := 2) (lv' := [(2, .int (zI (k + 1))), (1, .int (zI (best))), (3, .int (zI (1))), (0, .ref (bs + (i)))]) C hl rfl dX11_headTip_59 (by decide) rfl (fun ls hl => ?_)
              refine lv_goto (tgt := 4) C.1 C.2.1 dX11_headTip_62 (by decide) ?_
              obtain ⟨o12, hF⟩ := hF
              exact ih1 (best) (k + 1) hbest o12 hF.1 (Nat.lt_of_lt_of_le hF.2 (Nat.le_of_lt_succ hmu1)) _ _ _ hH hS (lv_sub hl [1, 0, 3] rfl)
            · have hF := hF.2 c11
              refine lv_iload_n C.1 C.2.1 dX11_headTip_53 rfl (lv_at hl 2 rfl) ?_
              refine lv_goto (tgt := 58) C.1 C.2.1 dX11_headTip_54 (by decide) ?_
              refine lv_istore_n (lv' := [(1, .int (zI (k))), (3, .int (zI (1))), (2, .int (zI (k))), (0, .ref (bs + (i)))]) C.1 C.2.1 dX11_headTip_58 rfl hl (by decide) rfl (fun ls hl => ?_)
              refine zd_iinc (k := 2) (lv' := [(2, .int (zI (k + 1))), (1, .int (zI (k))), (3, .int (zI (1))), (0, .ref (bs + (i)))]) C hl rfl dX11_headTip_59 (by decide) rfl (fun ls hl => ?_)
              refine lv_goto (tgt := 4) C.1 C.2.1 dX11_headTip_62 (by decide) ?_
              obtain ⟨o13, hF⟩ := hF
              exact ih1 (k) (k + 1) hk o13 hF.1 (Nat.lt_of_lt_of_le hF.2 (Nat.le_of_lt_succ hmu1)) _ _ _ hH hS (lv_sub hl [1, 0, 3] rfl)
  exact L1 (((X i 27 - ((1 : Int))).toNat) + 1) ((0 : Int)) ((1 : Int)) (by decide) (by decide) hI1 (Nat.lt_succ_self _) _ _ _ hH hS (lv_sub hl [1, 0, 2] rfl)
theorem v_X11_headTip {X Y : Nat → Int → Int} {R : Nat → Int → Option Nat} {i : Nat}  (hp : oH X Y i) : F_X11_headTip i X Y R  := by
  unfold F_X11_headTip
  intro hX hY
  have h := hp
  have h27 := h.1.2.2.1
  have hbs := h.1.2.2.2
  have hl := h.2.2.1
  have s1 : csHt (rP X i) (rG X i) (X i 41) 1 = 0 := by
    have := csHt_b (P := rP X i) (G := rG X i) (h := X i 41) 1
    omega
  refine ⟨⟨1, rfl, by decide, by omega, by rw [s1]; rfl⟩, fun best k br kr hI => ?_⟩
  obtain ⟨q, hq, q1, q2, hz⟩ := hI
  subst hq
  refine ⟨fun c => ?_, fun c => ?_⟩
  · rw [hz, show (X i 27).toNat = q by omega]
  have hb := csHt_b (P := rP X i) (G := rG X i) (h := X i 41) q
  have st : csHt (rP X i) (rG X i) (X i 41) (q + 1) = if zAnd (rWy X i q) (zXor (X i 41) (-1)) = 0 ∧ rG X i (csHt (rP X i) (rG X i) (X i 41) q) < rG X i q then q else csHt (rP X i) (rG X i) (X i 41) q := rfl
  have g1 : Y (i + 15) q = rG X i q := (hl q (by omega)).2.2
  have g2 : Y (i + 15) best = rG X i (csHt (rP X i) (rG X i) (X i 41) q) := by rw [hz]; exact (hl _ (by omega)).2.2
  rw [g1, g2, Int.toNat_natCast]
  have no : ¬ (zAnd (rWy X i q) (zXor (X i 41) (-1)) = 0 ∧ rG X i (csHt (rP X i) (rG X i) (X i 41) q) < rG X i q) → (rI ((q : Int) + 1)) ∧ (∃ y : Nat, (q : Int) + 1 = y ∧ 1 ≤ y ∧ (q : Int) + 1 ≤ X i 27 ∧ best = ((csHt (rP X i) (rG X i) (X i 41) y : Nat) : Int)) ∧ ((X i 27 - ((q : Int) + 1)).toNat < (X i 27 - q).toNat) := fun g => by
    refine ⟨⟨by omega, by omega⟩, ⟨q + 1, by omega, by omega, by omega, ?_⟩, by omega⟩
    rw [st, if_neg g]
    exact hz
  refine ⟨⟨(X i 27 - 1).toNat, hbs.1, by omega, by omega⟩, fun _ => ⟨fun c1 => no (fun g => c1 g.1), fun c1 => ⟨⟨by omega, by omega⟩, ⟨by omega, by omega⟩, fun c2 => no (fun g => by omega), fun c2 => ⟨⟨by omega, by omega⟩, ⟨q + 1, by omega, by omega, by omega, ?_⟩, by omega⟩⟩⟩⟩
  rw [st, if_pos ⟨Classical.not_not.mp c1, by omega⟩]
theorem c_X11_headTip {l : Launch} {D : va_G} {cy : Nat → ClassId} {bs N : Nat} {sa : Nat → Nat} {kd len : Nat → Nat} {X Y : Nat → Int → Int} {R : Nat → Int → Option Nat} {i : Nat} (hM : zM N kd len R i)  (hp : oH X Y i) : Met l yX11_headTip (.code yX11_headTip cX11_headTip 4 (some .int) :: zTB) (zRm 3 66) (zPc D cy bs sa N kd len X Y R [.ref (bs + (i))]) (zQi D cy bs N kd len (fun r st => r = ((csHt (rP X i) (rG X i) (X i 41) (X i 27).toNat : Nat) : Int) ∧ st = (X, Y, R))) 0 0 (zA bs) := w_X11_headTip hM  (v_X11_headTip  hp)
abbrev cX11_ofState : ByteArray := prog_13_method_77_code
def yX11_ofState : MethodName := ⟨RX11, "ofState", "(I)I"⟩
theorem dX11_ofState_0 : decode cX11_ofState 0 = .ok (.iload_n 1, 1) := by decide +kernel
theorem dX11_ofState_1 : decode cX11_ofState 1 = .ok (.bipush 10, 2) := by decide +kernel
theorem dX11_ofState_3 : decode cX11_ofState 3 = .ok (.if_icmp .lt 36, 3) := by decide +kernel
theorem dX11_ofState_6 : decode cX11_ofState 6 = .ok (.aload_n 0, 1) := by decide +kernel
theorem dX11_ofState_7 : decode cX11_ofState 7 = .ok (.iload_n 1, 1) := by decide +kernel
theorem dX11_ofState_8 : decode cX11_ofState 8 = .ok (.bipush 10, 2) := by decide +kernel
theorem dX11_ofState_10 : decode cX11_ofState 10 = .ok (.isub, 1) := by decide +kernel
theorem dX11_ofState_11 : decode cX11_ofState 11 = .ok (.invokevirtual 289, 3) := by decide +kernel
theorem dX11_ofState_14 : decode cX11_ofState 14 = .ok (.ifCond .eq 23, 3) := by decide +kernel
theorem dX11_ofState_17 : decode cX11_ofState 17 = .ok (.aload_n 0, 1) := by decide +kernel
theorem dX11_ofState_18 : decode cX11_ofState 18 = .ok (.getfield 57, 3) := by decide +kernel
theorem dX11_ofState_21 : decode cX11_ofState 21 = .ok (.bipush 6, 2) := by decide +kernel
theorem dX11_ofState_23 : decode cX11_ofState 23 = .ok (.aload_n 0, 1) := by decide +kernel
theorem dX11_ofState_24 : decode cX11_ofState 24 = .ok (.getfield 367, 3) := by decide +kernel
theorem dX11_ofState_27 : decode cX11_ofState 27 = .ok (.imul, 1) := by decide +kernel
theorem dX11_ofState_28 : decode cX11_ofState 28 = .ok (.iload_n 1, 1) := by decide +kernel
theorem dX11_ofState_29 : decode cX11_ofState 29 = .ok (.iadd, 1) := by decide +kernel
theorem dX11_ofState_30 : decode cX11_ofState 30 = .ok (.bipush 10, 2) := by decide +kernel
theorem dX11_ofState_32 : decode cX11_ofState 32 = .ok (.isub, 1) := by decide +kernel
theorem dX11_ofState_33 : decode cX11_ofState 33 = .ok (.iaload, 1) := by decide +kernel
theorem dX11_ofState_34 : decode cX11_ofState 34 = .ok (.goto 4, 3) := by decide +kernel
theorem dX11_ofState_37 : decode cX11_ofState 37 = .ok (.iconst (-1), 1) := by decide +kernel
theorem dX11_ofState_38 : decode cX11_ofState 38 = .ok (.ireturn, 1) := by decide +kernel
theorem dX11_ofState_39 : decode cX11_ofState 39 = .ok (.iload_n 1, 1) := by decide +kernel
theorem dX11_ofState_40 : decode cX11_ofState 40 = .ok (.tableswitch 113 0 8 #[52, 57, 67, 72, 77, 82, 87, 92, 97], 52) := by decide +kernel
theorem dX11_ofState_92 : decode cX11_ofState 92 = .ok (.aload_n 0, 1) := by decide +kernel
theorem dX11_ofState_93 : decode cX11_ofState 93 = .ok (.getfield 367, 3) := by decide +kernel
theorem dX11_ofState_96 : decode cX11_ofState 96 = .ok (.ireturn, 1) := by decide +kernel
theorem dX11_ofState_97 : decode cX11_ofState 97 = .ok (.aload_n 0, 1) := by decide +kernel
theorem dX11_ofState_98 : decode cX11_ofState 98 = .ok (.getfield 47, 3) := by decide +kernel
theorem dX11_ofState_101 : decode cX11_ofState 101 = .ok (.aload_n 0, 1) := by decide +kernel
theorem dX11_ofState_102 : decode cX11_ofState 102 = .ok (.getfield 367, 3) := by decide +kernel
theorem dX11_ofState_105 : decode cX11_ofState 105 = .ok (.iaload, 1) := by decide +kernel
theorem dX11_ofState_106 : decode cX11_ofState 106 = .ok (.ireturn, 1) := by decide +kernel
theorem dX11_ofState_107 : decode cX11_ofState 107 = .ok (.aload_n 0, 1) := by decide +kernel
theorem dX11_ofState_108 : decode cX11_ofState 108 = .ok (.getfield 322, 3) := by decide +kernel
theorem dX11_ofState_111 : decode cX11_ofState 111 = .ok (.ireturn, 1) := by decide +kernel
theorem dX11_ofState_112 : decode cX11_ofState 112 = .ok (.aload_n 0, 1) := by decide +kernel
theorem dX11_ofState_113 : decode cX11_ofState 113 = .ok (.invokevirtual 409, 3) := by decide +kernel
theorem dX11_ofState_116 : decode cX11_ofState 116 = .ok (.ireturn, 1) := by decide +kernel
theorem dX11_ofState_117 : decode cX11_ofState 117 = .ok (.aload_n 0, 1) := by decide +kernel
theorem dX11_ofState_118 : decode cX11_ofState 118 = .ok (.getfield 370, 3) := by decide +kernel
theorem dX11_ofState_121 : decode cX11_ofState 121 = .ok (.ireturn, 1) := by decide +kernel
theorem dX11_ofState_122 : decode cX11_ofState 122 = .ok (.aload_n 0, 1) := by decide +kernel
theorem dX11_ofState_123 : decode cX11_ofState 123 = .ok (.getfield 373, 3) := by decide +kernel
theorem dX11_ofState_126 : decode cX11_ofState 126 = .ok (.ireturn, 1) := by decide +kernel
theorem dX11_ofState_127 : decode cX11_ofState 127 = .ok (.aload_n 0, 1) := by decide +kernel
theorem dX11_ofState_128 : decode cX11_ofState 128 = .ok (.getfield 307, 3) := by decide +kernel
theorem dX11_ofState_131 : decode cX11_ofState 131 = .ok (.ireturn, 1) := by decide +kernel
theorem dX11_ofState_132 : decode cX11_ofState 132 = .ok (.aload_n 0, 1) := by decide +kernel
theorem dX11_ofState_133 : decode cX11_ofState 133 = .ok (.invokevirtual 412, 3) := by decide +kernel
theorem dX11_ofState_136 : decode cX11_ofState 136 = .ok (.ireturn, 1) := by decide +kernel
theorem dX11_ofState_137 : decode cX11_ofState 137 = .ok (.aload_n 0, 1) := by decide +kernel
theorem dX11_ofState_138 : decode cX11_ofState 138 = .ok (.aload_n 0, 1) := by decide +kernel
theorem dX11_ofState_139 : decode cX11_ofState 139 = .ok (.invokevirtual 412, 3) := by decide +kernel
theorem dX11_ofState_142 : decode cX11_ofState 142 = .ok (.invokevirtual 382, 3) := by decide +kernel
theorem dX11_ofState_145 : decode cX11_ofState 145 = .ok (.aload_n 0, 1) := by decide +kernel
theorem dX11_ofState_146 : decode cX11_ofState 146 = .ok (.getfield 364, 3) := by decide +kernel
theorem dX11_ofState_149 : decode cX11_ofState 149 = .ok (.iconst (-1), 1) := by decide +kernel
theorem dX11_ofState_150 : decode cX11_ofState 150 = .ok (.ixor, 1) := by decide +kernel
theorem dX11_ofState_151 : decode cX11_ofState 151 = .ok (.iand, 1) := by decide +kernel
theorem dX11_ofState_152 : decode cX11_ofState 152 = .ok (.ireturn, 1) := by decide +kernel
theorem dX11_ofState_153 : decode cX11_ofState 153 = .ok (.iconst (-1), 1) := by decide +kernel
theorem dX11_ofState_154 : decode cX11_ofState 154 = .ok (.ireturn, 1) := by decide +kernel
theorem q_1775 : Cond.methodLink RX11 409 yX11_orphans ∈ zTB := zmem 1775 (by decide +kernel) rfl
theorem q_1777 : Cond.instanceMethod yX11_orphans ∈ zTB := zmem 1777 (by decide +kernel) rfl
theorem q_89 : Cond.selects RX11 yX11_orphans yX11_orphans ∈ zTB := zmem 89 (by decide +kernel) rfl
theorem q_1778 : Cond.code yX11_orphans cX11_orphans 3 (some .int) ∈ zTB := zmem 1778 (by decide +kernel) rfl
theorem k_RX11_409 : zLv RX11 409 RX11 yX11_orphans cX11_orphans 3 (some .int) 0 := ⟨⟨q_1775, q_1777, q_89, q_140, q_1778⟩, rfl, ⟨by decide, by decide⟩, by decide +kernel⟩
theorem q_1779 : Cond.methodLink RX11 412 yX11_headTip ∈ zTB := zmem 1779 (by decide +kernel) rfl
theorem q_1781 : Cond.instanceMethod yX11_headTip ∈ zTB := zmem 1781 (by decide +kernel) rfl
theorem q_90 : Cond.selects RX11 yX11_headTip yX11_headTip ∈ zTB := zmem 90 (by decide +kernel) rfl
theorem q_1782 : Cond.code yX11_headTip cX11_headTip 4 (some .int) ∈ zTB := zmem 1782 (by decide +kernel) rfl
theorem k_RX11_412 : zLv RX11 412 RX11 yX11_headTip cX11_headTip 4 (some .int) 0 := ⟨⟨q_1779, q_1781, q_90, q_140, q_1782⟩, rfl, ⟨by decide, by decide⟩, by decide +kernel⟩
theorem tsw_0_8 (z : Int) (h0 : ¬ z = 0) (h1 : ¬ z = 1) (h2 : ¬ z = 2) (h3 : ¬ z = 3) (h4 : ¬ z = 4) (h5 : ¬ z = 5) (h6 : ¬ z = 6) (h7 : ¬ z = 7) (h8 : ¬ z = 8) : z < 0 ∨ 8 < z := by omega
def F_X11_ofState (i : Nat) (X Y : Nat → Int → Int) (R : Nat → Int → Option Nat) (a : Int) : Prop := (∀ i j, rI (X i j)) → (∀ i j, rL (Y i j)) → ((a < 10) → ((a = 0 → (∀ t, cR X i (X i 27).toNat t → oWh (rCx X i) t → X (i) 43 = csSt (rCx X i) (rLd X i) (X i 26) t (a))) ∧ (a = 1 → ((0 ≤ (X (i) 43) ∧ (X (i) 43) < 15) ∧ (∀ t, cR X i (X i 27).toNat t → oWh (rCx X i) t → X (i + 13) (X (i) 43) = csSt (rCx X i) (rLd X i) (X i 26) t (a)))) ∧ (a = 2 → (∀ t, cR X i (X i 27).toNat t → oWh (rCx X i) t → X (i) 36 = csSt (rCx X i) (rLd X i) (X i 26) t (a))) ∧ (a = 3 → ((oH X Y i) ∧ (rI (bS (csOr (rP X i) (X i 41)) (X i 27).toNat) → (∀ t, cR X i (X i 27).toNat t → oWh (rCx X i) t → bS (csOr (rP X i) (X i 41)) (X i 27).toNat = csSt (rCx X i) (rLd X i) (X i 26) t (a))))) ∧ (a = 4 → (∀ t, cR X i (X i 27).toNat t → oWh (rCx X i) t → X (i) 44 = csSt (rCx X i) (rLd X i) (X i 26) t (a))) ∧ (a = 5 → (∀ t, cR X i (X i 27).toNat t → oWh (rCx X i) t → X (i) 45 = csSt (rCx X i) (rLd X i) (X i 26) t (a))) ∧ (a = 6 → (∀ t, cR X i (X i 27).toNat t → oWh (rCx X i) t → X (i) 28 = csSt (rCx X i) (rLd X i) (X i 26) t (a))) ∧ (a = 7 → ((oH X Y i) ∧ (rI (((csHt (rP X i) (rG X i) (X i 41) (X i 27).toNat : Nat) : Int)) → (∀ t, cR X i (X i 27).toNat t → oWh (rCx X i) t → ((csHt (rP X i) (rG X i) (X i 41) (X i 27).toNat : Nat) : Int) = csSt (rCx X i) (rLd X i) (X i 26) t (a))))) ∧ (a = 8 → ((oH X Y i) ∧ (rI (((csHt (rP X i) (rG X i) (X i 41) (X i 27).toNat : Nat) : Int)) → ((∃ n : Nat, oB X i n ∧ 0 ≤ ((csHt (rP X i) (rG X i) (X i 41) (X i 27).toNat : Nat) : Int) ∧ ((csHt (rP X i) (rG X i) (X i 41) (X i 27).toNat : Nat) : Int) ≤ n) ∧ (rI (rWy X i (((csHt (rP X i) (rG X i) (X i 41) (X i 27).toNat : Nat) : Int)).toNat) → (∀ t, cR X i (X i 27).toNat t → oWh (rCx X i) t → zAnd (rWy X i (((csHt (rP X i) (rG X i) (X i 41) (X i 27).toNat : Nat) : Int)).toNat) (zXor (X (i) 42) ((-1))) = csSt (rCx X i) (rLd X i) (X i 26) t (a))))))) ∧ ((a < 0 ∨ 8 < a) → (∀ t, cR X i (X i 27).toNat t → oWh (rCx X i) t → (-1) = csSt (rCx X i) (rLd X i) (X i 26) t (a))))) ∧ ((¬ (a < 10)) → ((rI (a - 10)) ∧ ((0 ≤ X i 26) ∧ ((((mIn (a - 10) 0 (X i 26 - 1)) = false) → (∀ t, cR X i (X i 27).toNat t → oWh (rCx X i) t → (-1) = csSt (rCx X i) (rLd X i) (X i 26) t (a))) ∧ (((mIn (a - 10) 0 (X i 26 - 1)) = true) → ((0 ≤ (((6 * (X (i) 43)) + a) - 10) ∧ (((6 * (X (i) 43)) + a) - 10) < 90) ∧ (∀ t, cR X i (X i 27).toNat t → oWh (rCx X i) t → X (i + 16) (((6 * (X (i) 43)) + a) - 10) = csSt (rCx X i) (rLd X i) (X i 26) t (a))))))))
set_option maxHeartbeats 4000000 in
set_option maxRecDepth 100000 in
theorem w_X11_ofState {l : Launch} {D : va_G} {cy : Nat → ClassId} {bs N : Nat} {sa : Nat → Nat} {kd len : Nat → Nat} {X Y : Nat → Int → Int} {R : Nat → Int → Option Nat} {i : Nat} (hM : zM N kd len R i) (a : Int) (ha : rI a) (hF : F_X11_ofState i X Y R a) : Met l yX11_ofState (.code yX11_ofState cX11_ofState 2 (some .int) :: zTB) (zRm 4 89) (zPc D cy bs sa N kd len X Y R [.ref (bs + (i)), .int (zI (a))]) (zQi D cy bs N kd len (fun r st => st.1 = X ∧ st.2.1 = Y ∧ st.2.2 = R ∧ (∀ t, cR X i (X i 27).toNat t → oWh (rCx X i) t → r = csSt (rCx X i) (rLd X i) (X i 26) t (a)))) 0 0 (zA bs) := by
  refine zstart (by decide) (Nat.le_of_ble_eq_true rfl) ?_
  intro p e s m args below meth c ls C hE hH hr hlk hnm hl hargs
  have hF := hF hH.2.2.1 hH.2.2.2
  have hS : va_S (zA bs) s.heap s.heap [] := va_S.rf
  have hl : lv_has ls 2 [(0, .ref (bs + (i))), (1, .int (zI (a)))] := hl
  refine lv_iload_n C.1 C.2.1 dX11_ofState_0 rfl (lv_at hl 1 rfl) ?_
  refine zd_bipush C (by decide) dX11_ofState_1 ?_
  refine zd_icmp_lt C ha (by decide) 39 dX11_ofState_3 (by decide) (fun c1 => ?_) (fun c1 => ?_)
  · have hF := hF.1 c1
    refine lv_iload_n C.1 C.2.1 dX11_ofState_39 rfl (lv_at hl 1 rfl) ?_
    by_cases c2_0 : a = 0
    · have hF := hF.1 c2_0
      refine zd_tabI C ha 92 (0) c2_0 dX11_ofState_40 (by decide) (by decide) rfl (by decide) ?_
      refine lv_aload_n C.1 C.2.1 dX11_ofState_92 rfl (lv_at hl 0 rfl) ?_
      refine zg11_43 C hH (zM_n0 hM) (zM_k0 hM) q_1330 dX11_ofState_93 ?_
      exact zd_iret C hr hlk hH hS (hH.2.2.1 _ _) (⟨rfl, rfl, rfl, hF⟩) dX11_ofState_96
    · have hF := hF.2
      by_cases c2_1 : a = 1
      · have hF := hF.1 c2_1
        refine zd_tabI C ha 97 (1) c2_1 dX11_ofState_40 (by decide) (by decide) rfl (by decide) ?_
        refine lv_aload_n C.1 C.2.1 dX11_ofState_97 rfl (lv_at hl 0 rfl) ?_
        refine zg11_31 C hH (zM_n0 hM) (zM_k0 hM) q_1318 (zM_r13 hM) dX11_ofState_98 ?_
        refine lv_aload_n C.1 C.2.1 dX11_ofState_101 rfl (lv_at hl 0 rfl) ?_
        refine zg11_43 C hH (zM_n0 hM) (zM_k0 hM) q_1330 dX11_ofState_102 ?_
        obtain ⟨o3, hF⟩ := hF
        refine zd_iald C hH (zM_n13 hM) (zM_k13 hM) o3.1 (by rw [zM_l13 hM]; exact o3.2) (by rw [zM_l13 hM]; decide) dX11_ofState_105 ?_
        exact zd_iret C hr hlk hH hS (hH.2.2.1 _ _) (⟨rfl, rfl, rfl, hF⟩) dX11_ofState_106
      · have hF := hF.2
        by_cases c2_2 : a = 2
        · have hF := hF.1 c2_2
          refine zd_tabI C ha 107 (2) c2_2 dX11_ofState_40 (by decide) (by decide) rfl (by decide) ?_
          refine lv_aload_n C.1 C.2.1 dX11_ofState_107 rfl (lv_at hl 0 rfl) ?_
          refine zg11_36 C hH (zM_n0 hM) (zM_k0 hM) q_1323 dX11_ofState_108 ?_
          exact zd_iret C hr hlk hH hS (hH.2.2.1 _ _) (⟨rfl, rfl, rfl, hF⟩) dX11_ofState_111
        · have hF := hF.2
          by_cases c2_3 : a = 3
          · have hF := hF.1 c2_3
            refine zd_tabI C ha 112 (3) c2_3 dX11_ofState_40 (by decide) (by decide) rfl (by decide) ?_
            refine lv_aload_n C.1 C.2.1 dX11_ofState_112 rfl (lv_at hl 0 rfl) ?_
            obtain ⟨o4, hF⟩ := hF
            refine zgoi (zrunV (As := []) (rest := []) C hE hH hS hl.1 (c_X11_orphans (l := l) hM  o4) k_RX11_409 ⟨Nat.le_of_ble_eq_true rfl, Nat.le_of_ble_eq_true rfl⟩ (zM_n0 hM) (zM_k0 hM) rfl rfl rfl (Nat.le_of_ble_eq_true rfl) dX11_ofState_113 ⟨Nat.zero_le _, Nat.zero_le _⟩) hS (fun rq Xq Yq Rq H locs hrq hq hH hS => ?_)
            obtain ⟨h91, h92⟩ := hq
            have h93 : Xq = X := congrArg (fun z => z.1) h92
            have h94 : Yq = Y := congrArg (fun z => z.2.1) h92
            have h95 : Rq = R := congrArg (fun z => z.2.2) h92
            rw [h93, h94, h95] at hH
            subst h91
            have hr5 := hrq
            have hF := hF hr5
            exact zd_iret C hr hlk hH hS hr5 (⟨rfl, rfl, rfl, hF⟩) dX11_ofState_116
          · have hF := hF.2
            by_cases c2_4 : a = 4
            · have hF := hF.1 c2_4
              refine zd_tabI C ha 117 (4) c2_4 dX11_ofState_40 (by decide) (by decide) rfl (by decide) ?_
              refine lv_aload_n C.1 C.2.1 dX11_ofState_117 rfl (lv_at hl 0 rfl) ?_
              refine zg11_44 C hH (zM_n0 hM) (zM_k0 hM) q_1331 dX11_ofState_118 ?_
              exact zd_iret C hr hlk hH hS (hH.2.2.1 _ _) (⟨rfl, rfl, rfl, hF⟩) dX11_ofState_121
            · have hF := hF.2
              by_cases c2_5 : a = 5
              · have hF := hF.1 c2_5
                refine zd_tabI C ha 122 (5) c2_5 dX11_ofState_40 (by decide) (by decide) rfl (by decide) ?_
                refine lv_aload_n C.1 C.2.1 dX11_ofState_122 rfl (lv_at hl 0 rfl) ?_
                refine zg11_45 C hH (zM_n0 hM) (zM_k0 hM) q_1332 dX11_ofState_123 ?_
                exact zd_iret C hr hlk hH hS (hH.2.2.1 _ _) (⟨rfl, rfl, rfl, hF⟩) dX11_ofState_126
              · have hF := hF.2
                by_cases c2_6 : a = 6
                · have hF := hF.1 c2_6
                  refine zd_tabI C ha 127 (6) c2_6 dX11_ofState_40 (by decide) (by decide) rfl (by decide) ?_
                  refine lv_aload_n C.1 C.2.1 dX11_ofState_127 rfl (lv_at hl 0 rfl) ?_
                  refine zg11_28 C hH (zM_n0 hM) (zM_k0 hM) q_1315 dX11_ofState_128 ?_
                  exact zd_iret C hr hlk hH hS (hH.2.2.1 _ _) (⟨rfl, rfl, rfl, hF⟩) dX11_ofState_131
                · have hF := hF.2
                  by_cases c2_7 : a = 7
                  · have hF := hF.1 c2_7
                    refine zd_tabI C ha 132 (7) c2_7 dX11_ofState_40 (by decide) (by decide) rfl (by decide) ?_
                    refine lv_aload_n C.1 C.2.1 dX11_ofState_132 rfl (lv_at hl 0 rfl) ?_
                    obtain ⟨o6, hF⟩ := hF
                    refine zgoi (zrunV (As := []) (rest := []) C hE hH hS hl.1 (c_X11_headTip (l := l) hM  o6) k_RX11_412 ⟨Nat.le_of_ble_eq_true rfl, Nat.le_of_ble_eq_true rfl⟩ (zM_n0 hM) (zM_k0 hM) rfl rfl rfl (Nat.le_of_ble_eq_true rfl) dX11_ofState_133 ⟨Nat.zero_le _, Nat.zero_le _⟩) hS (fun rq Xq Yq Rq H locs hrq hq hH hS => ?_)
                    obtain ⟨h91, h92⟩ := hq
                    have h93 : Xq = X := congrArg (fun z => z.1) h92
                    have h94 : Yq = Y := congrArg (fun z => z.2.1) h92
                    have h95 : Rq = R := congrArg (fun z => z.2.2) h92
                    rw [h93, h94, h95] at hH
                    subst h91
                    have hr7 := hrq
                    have hF := hF hr7
                    exact zd_iret C hr hlk hH hS hr7 (⟨rfl, rfl, rfl, hF⟩) dX11_ofState_136
                  · have hF := hF.2
                    by_cases c2_8 : a = 8
                    · have hF := hF.1 c2_8
                      refine zd_tabI C ha 137 (8) c2_8 dX11_ofState_40 (by decide) (by decide) rfl (by decide) ?_
                      refine lv_aload_n C.1 C.2.1 dX11_ofState_137 rfl (lv_at hl 0 rfl) ?_
                      refine lv_aload_n C.1 C.2.1 dX11_ofState_138 rfl (lv_at hl 0 rfl) ?_
                      obtain ⟨o8, hF⟩ := hF
                      refine zgoi (zrunV (As := []) (rest := [.ref (bs + (i))]) C hE hH hS hl.1 (c_X11_headTip (l := l) hM  o8) k_RX11_412 ⟨Nat.le_of_ble_eq_true rfl, Nat.le_of_ble_eq_true rfl⟩ (zM_n0 hM) (zM_k0 hM) rfl rfl rfl (Nat.le_of_ble_eq_true rfl) dX11_ofState_139 ⟨Nat.zero_le _, Nat.zero_le _⟩) hS (fun rq Xq Yq Rq H locs hrq hq hH hS => ?_)
                      obtain ⟨h91, h92⟩ := hq
                      have h93 : Xq = X := congrArg (fun z => z.1) h92
                      have h94 : Yq = Y := congrArg (fun z => z.2.1) h92
                      have h95 : Rq = R := congrArg (fun z => z.2.2) h92
                      rw [h93, h94, h95] at hH
                      subst h91
                      have hr9 := hrq
                      have hF := hF hr9
                      obtain ⟨o10, hF⟩ := hF
                      refine zgoi (zrunV (As := [.int (zI (((csHt (rP X i) (rG X i) (X i 41) (X i 27).toNat : Nat) : Int)))]) (rest := []) C hE hH hS hl.1 (c_X11_wayTo (l := l) hM (((csHt (rP X i) (rG X i) (X i 41) (X i 27).toNat : Nat) : Int)) hr9 o10) k_RX11_382 ⟨Nat.le_of_ble_eq_true rfl, Nat.le_of_ble_eq_true rfl⟩ (zM_n0 hM) (zM_k0 hM) rfl rfl rfl (Nat.le_of_ble_eq_true rfl) dX11_ofState_142 ⟨Nat.zero_le _, Nat.zero_le _⟩) hS (fun rq Xq Yq Rq H locs hrq hq hH hS => ?_)
                      obtain ⟨h91, h92⟩ := hq
                      have h93 : Xq = X := congrArg (fun z => z.1) h92
                      have h94 : Yq = Y := congrArg (fun z => z.2.1) h92
                      have h95 : Rq = R := congrArg (fun z => z.2.2) h92
                      rw [h93, h94, h95] at hH
                      subst h91
                      have hr11 := hrq
                      have hF := hF hr11
                      refine lv_aload_n C.1 C.2.1 dX11_ofState_145 rfl (lv_at hl 0 rfl) ?_
                      refine zg11_42 C hH (zM_n0 hM) (zM_k0 hM) q_1329 dX11_ofState_146 ?_
                      refine zd_iconst C dX11_ofState_149 ?_
                      refine zd_ixor C dX11_ofState_150 ?_
                      refine zd_iand C dX11_ofState_151 ?_
                      exact zd_iret C hr hlk hH hS (zI_rg _) (⟨rfl, rfl, rfl, hF⟩) dX11_ofState_152
                    · have hF := hF.2
                      have c2 := tsw_0_8 (a) c2_0 c2_1 c2_2 c2_3 c2_4 c2_5 c2_6 c2_7 c2_8
                      have hF := hF c2
                      refine zd_tabO C ha 153 c2 dX11_ofState_40 (by decide) ?_
                      refine zd_iconst C dX11_ofState_153 ?_
                      exact zd_iret C hr hlk hH hS (by decide) (⟨rfl, rfl, rfl, hF⟩) dX11_ofState_154
  · have hF := hF.2 c1
    refine lv_aload_n C.1 C.2.1 dX11_ofState_6 rfl (lv_at hl 0 rfl) ?_
    refine lv_iload_n C.1 C.2.1 dX11_ofState_7 rfl (lv_at hl 1 rfl) ?_
    refine zd_bipush C (by decide) dX11_ofState_8 ?_
    refine zd_isub C dX11_ofState_10 ?_
    obtain ⟨o12, hF⟩ := hF
    obtain ⟨o13, hF⟩ := hF
    refine zgoi (zrunV (As := [.int (zI (a - 10))]) (rest := []) C hE hH hS hl.1 (c_X11_isAccount (l := l) hM (a - 10) o12 o13) k_RX11_289 ⟨Nat.le_of_ble_eq_true rfl, Nat.le_of_ble_eq_true rfl⟩ (zM_n0 hM) (zM_k0 hM) rfl rfl rfl (Nat.le_of_ble_eq_true rfl) dX11_ofState_11 ⟨Nat.zero_le _, Nat.zero_le _⟩) hS (fun rq Xq Yq Rq H locs hrq hq hH hS => ?_)
    obtain ⟨h91, h92⟩ := hq
    have h93 : Xq = X := congrArg (fun z => z.1) h92
    have h94 : Yq = Y := congrArg (fun z => z.2.1) h92
    have h95 : Rq = R := congrArg (fun z => z.2.2) h92
    rw [h93, h94, h95] at hH
    subst h91
    refine zd_ifB_eq C 37 dX11_ofState_14 (by decide) (fun c14 => ?_) (fun c14 => ?_)
    · have hF := hF.1 c14
      refine zd_iconst C dX11_ofState_37 ?_
      exact zd_iret C hr hlk hH hS (by decide) (⟨rfl, rfl, rfl, hF⟩) dX11_ofState_38
    · have hF := hF.2 c14
      refine lv_aload_n C.1 C.2.1 dX11_ofState_17 rfl (lv_at hl 0 rfl) ?_
      refine zg11_34 C hH (zM_n0 hM) (zM_k0 hM) q_1321 (zM_r16 hM) dX11_ofState_18 ?_
      refine zd_bipush C (by decide) dX11_ofState_21 ?_
      refine lv_aload_n C.1 C.2.1 dX11_ofState_23 rfl (lv_at hl 0 rfl) ?_
      refine zg11_43 C hH (zM_n0 hM) (zM_k0 hM) q_1330 dX11_ofState_24 ?_
      refine zd_imul C dX11_ofState_27 ?_
      refine lv_iload_n C.1 C.2.1 dX11_ofState_28 rfl (lv_at hl 1 rfl) ?_
      refine zd_iadd C dX11_ofState_29 ?_
      refine zd_bipush C (by decide) dX11_ofState_30 ?_
      refine zd_isub C dX11_ofState_32 ?_
      obtain ⟨o15, hF⟩ := hF
      refine zd_iald C hH (zM_n16 hM) (zM_k16 hM) o15.1 (by rw [zM_l16 hM]; exact o15.2) (by rw [zM_l16 hM]; decide) dX11_ofState_33 ?_
      refine lv_goto (tgt := 38) C.1 C.2.1 dX11_ofState_34 (by decide) ?_
      exact zd_iret C hr hlk hH hS (hH.2.2.1 _ _) (⟨rfl, rfl, rfl, hF⟩) dX11_ofState_38
theorem v_X11_ofState {X Y : Nat → Int → Int} {R : Nat → Int → Option Nat} {i : Nat} (a : Int) (ha : rI a) (hp : oH X Y i ∧ 0 ≤ X i 43 ∧ X i 43 < X i 27) : F_X11_ofState i X Y R a := by
  unfold F_X11_ofState
  intro hX hY
  obtain ⟨h, hb1, hb2⟩ := hp
  have h27 := h.1.2.2.1
  have hbs := h.1.2.2.2
  have hl := h.2.2.1
  have hM := h.2.2.2.2
  have h26 := h.1.2.1.1
  have hH := csHt_b (P := rP X i) (G := rG X i) (h := X i 41) (X i 27).toNat
  have lo : ∀ {t w}, w < 10 → csSt (rCx X i) (rLd X i) (X i 26) t w = (if w = 0 then t.1 5 else if w = 1 then sHg (rP X i) (t.1 5).toNat else if w = 2 then t.1 3 else if w = 3 then bS (csOr (rP X i) (t.1 1)) (X i 27).toNat else if w = 4 then t.1 6 else if w = 5 then t.1 7 else if w = 6 then t.1 0 else if w = 7 then csHt (rP X i) (rG X i) (t.1 1) (X i 27).toNat else if w = 8 then zAnd (wyP (rP X i) (csHt (rP X i) (rG X i) (t.1 1) (X i 27).toNat)) (zXor (t.1 2) (-1)) else -1) := fun {t w} g => if_neg (by omega)
  refine ⟨fun c => ⟨fun e t ht hw => ?_, fun e => ⟨⟨by omega, by omega⟩, fun t ht hw => ?_⟩, fun e t ht hw => ?_, fun e => ⟨h, fun _ t ht hw => ?_⟩, fun e t ht hw => ?_, fun e t ht hw => ?_, fun e t ht hw => ?_, fun e => ⟨h, fun _ t ht hw => ?_⟩, fun e => ⟨h, fun _ => ⟨⟨(X i 27 - 1).toNat, hbs.1, by omega, by omega⟩, fun _ t ht hw => ?_⟩⟩, fun e t ht hw => ?_⟩, fun c => ⟨⟨by have := ‹rI a›.2; omega, by have := ‹rI a›.2; omega⟩, h26.1, fun cm t ht hw => ?_, fun cm => ⟨⟨by omega, ?_⟩, fun t ht hw => ?_⟩⟩⟩
  · rw [lo c, e, ← ht.1]
    rfl
  · obtain ⟨p, hp⟩ : ∃ p : Nat, X i 43 = p := ⟨(X i 43).toNat, by omega⟩
    have e5 : t.1 5 = p := by rw [← ht.1]; exact hp
    rw [lo c, e, hp, e5]
    exact (hl p (by omega)).1
  · rw [lo c, e, ← ht.1]
    rfl
  · rw [lo c, e, ← ht.1]
    rfl
  · rw [lo c, e, ← ht.1]
    rfl
  · rw [lo c, e, ← ht.1]
    rfl
  · rw [lo c, e, ← ht.1]
    rfl
  · rw [lo c, e, ← ht.1]
    rfl
  · rw [lo c, e, ← ht.1, Int.toNat_natCast]
    rfl
  · rw [lo c, if_neg (by omega), if_neg (by omega), if_neg (by omega), if_neg (by omega), if_neg (by omega), if_neg (by omega), if_neg (by omega), if_neg (by omega), if_neg (by omega)]
  · unfold csSt
    rw [if_pos (by omega), cm]
    rfl
  · have := mIn_t.mp cm
    omega
  · have hm := mIn_t.mp cm
    unfold csSt
    rw [if_pos (by omega), cm, if_pos rfl]
    obtain ⟨p, e5, hpn, hpw⟩ := hw.2.2
    have e43 : X i 43 = p := by rw [← e5, ← ht.1]; rfl
    have hs : sdf X i p = true := hw.1 p hpn hpw
    have hpn : p < (X i 27).toNat := hpn
    unfold sdf at hs
    obtain ⟨M, hMs⟩ := Option.isSome_iff_exists.mp hs
    have q := hM p (by omega) M hMs (a - 10) hm.1 (by omega)
    unfold rLd
    rw [e5, Int.toNat_natCast, hMs, e43, show 6 * (p : Int) + a - 10 = 6 * (p : Int) + (a - 10) by omega]
    exact q
theorem c_X11_ofState {l : Launch} {D : va_G} {cy : Nat → ClassId} {bs N : Nat} {sa : Nat → Nat} {kd len : Nat → Nat} {X Y : Nat → Int → Int} {R : Nat → Int → Option Nat} {i : Nat} (hM : zM N kd len R i) (a : Int) (ha : rI a) (hp : oH X Y i ∧ 0 ≤ X i 43 ∧ X i 43 < X i 27) : Met l yX11_ofState (.code yX11_ofState cX11_ofState 2 (some .int) :: zTB) (zRm 4 89) (zPc D cy bs sa N kd len X Y R [.ref (bs + (i)), .int (zI (a))]) (zQi D cy bs N kd len (fun r st => st.1 = X ∧ st.2.1 = Y ∧ st.2.2 = R ∧ (∀ t, cR X i (X i 27).toNat t → oWh (rCx X i) t → r = csSt (rCx X i) (rLd X i) (X i 26) t (a)))) 0 0 (zA bs) := w_X11_ofState hM a ha (v_X11_ofState a ha hp)
