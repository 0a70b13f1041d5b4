/-! DRAWN -/
def csTry (x : Cx) (t : Cs) (w v : Int) : Cs := if csOk (xN x) t.1 w v then csDo x t w v else t
def csDr (x : Cx) (s : Int × Cs) : Int × Cs :=
  if drV s.1 10 = 9 then (drS (drS s.1), csTry x s.2 3 (drV (drS s.1) 2))
  else if (xN x : Int) ≤ 1 then (drS s.1, s.2)
  else (drS (drS s.1), csTry x s.2 (if drV s.1 10 < 4 then 0 else if drV s.1 10 < 8 then 1 else 2) (1 + drV (drS s.1) ((xN x : Int) - 1)))
def csDn (x : Cx) (s : Int × Cs) : Nat → Int × Cs
  | 0 => s
  | k + 1 => csDr x (csDn x s k)
theorem zUsh_b {a : Int} : 0 ≤ zUsh a 16 ∧ zUsh a 16 < 65536 := by
  unfold zUsh
  have e : ((zI a).toUInt32 >>> ((zI 16).toUInt32 &&& Int32.toUInt32 31)).toInt32.toInt = ((zI a).toUInt32 >>> 16).toInt32.toInt := rfl
  rw [e]
  have h : ((zI a).toUInt32 >>> 16).toNat < 65536 := by
    rw [UInt32.toNat_shiftRight]
    have := (zI a).toUInt32.toNat_lt
    show _ >>> (16 % 32) < 65536
    rw [Nat.shiftRight_eq_div_pow, show (2 : Nat) ^ (16 % 32) = 65536 from rfl]
    omega
  have e2 : ((zI a).toUInt32 >>> 16).toInt32.toInt = (((zI a).toUInt32 >>> 16).toNat : Int) := by
    have h2 : ((zI a).toUInt32 >>> 16).toBitVec.toNat < 65536 := h
    show ((zI a).toUInt32 >>> 16).toBitVec.toInt = (((zI a).toUInt32 >>> 16).toBitVec.toNat : Int)
    exact BitVec.toInt_eq_toNat_of_lt (by omega)
  rw [e2]
  omega
theorem drV_b {s n : Int} (h : 1 ≤ n) : 0 ≤ drV s n ∧ drV s n < n := by
  unfold drV
  have := zUsh_b (a := drS s)
  exact ⟨Int.tmod_nonneg _ this.1, Int.tmod_lt_of_pos _ (by omega)⟩
/-- what a deed comes to, done or not -/
theorem does_pl {X X1 Y Y1 : Nat → Int → Int} {i : Nat} {w v q : Int} {r : Bool} (hq : 0 ≤ q) (pl : oPl X Y i q) (hv : w = 3 → 0 ≤ v ∧ v ≤ 1)
    (h : r = csOk (X i 27).toNat (cX X i) w v ∧ fK X X1 Y Y1 i ∧ (r = false → X1 = X ∧ Y1 = Y) ∧ (r = true → ∀ t, cR X i (X i 27).toNat t → cR X1 i (X i 27).toNat (csDo (rCx X i) t w v))) :
    fK X X1 Y Y1 i ∧ oPl X1 Y1 i (q + 1) ∧ ∀ t, cR X i (X i 27).toNat t → r = csOk (X i 27).toNat t.1 w v ∧ cR X1 i (X i 27).toNat (csTry (rCx X i) t w v) := by
  obtain ⟨er, f, hx, hn⟩ := h
  have et : ∀ t, cR X i (X i 27).toNat t → r = csOk (X i 27).toNat t.1 w v := fun t ht => by rw [er, ht.1]
  have h27 := pl.1.1.2.2.1
  cases hr : r with
  | false =>
    obtain ⟨e1, e2⟩ := hx hr
    rw [e1, e2]
    refine ⟨fK.rf, ⟨pl.1, oCs_up (by omega) (by omega) pl.2.1, pl.2.2⟩, fun t ht => ⟨hr ▸ et t ht, ?_⟩⟩
    unfold csTry
    rw [show csOk (xN (rCx X i)) t.1 w v = false from (et t ht).symm.trans hr]
    exact ht
  | true =>
    have own := hn hr (cX X i, kX X i) ⟨rfl, fun _ _ _ => rfl⟩
    have od := oCS_do (x := rCx X i) (w := w) (v := v) (by show 0 < (X i 27).toNat; omega) (by show (X i 27).toNat ≤ 15; omega) pl.2 hv
    have e28 : X1 i 28 = _ := congrFun own.1 0
    have e36 : X1 i 36 = _ := congrFun own.1 3
    have s27 : X1 i 27 = X i 27 := f.2.1 _ (by omega)
    refine ⟨f, ⟨oH_f f (by rw [e28]; exact od.2.2) pl.1, ?_⟩, fun t ht => ⟨hr ▸ et t ht, ?_⟩⟩
    · rw [s27]
      refine ⟨?_, ?_, ?_⟩
      · show oCs (cX X1 i) _ _ _
        rw [own.1]
        exact oCs_up (by omega) (by omega) od.1
      · show mHas (X1 i 36) 0 = true
        rw [e36]
        exact od.2.1
      · show 0 ≤ X1 i 28 ∧ X1 i 28 ≤ 1
        rw [e28]
        exact od.2.2
    · unfold csTry
      rw [show csOk (xN (rCx X i)) t.1 w v = true from (et t ht).symm.trans hr]
      exact hn hr t ht
/-- what stays, but for the seed -/
def drK (X X1 Y Y1 : Nat → Int → Int) (i : Nat) : Prop := (∀ a, a ≠ i → a ≠ i + 17 → X1 a = X a) ∧ (∀ s, (s < 28 ∨ (28 < s ∧ s < 36) ∨ (37 < s ∧ s < 41) ∨ (47 < s ∧ s ≠ 64)) → X1 i s = X i s) ∧ ∀ a, a ≠ i + 18 → Y1 a = Y a
theorem drK.rf {X Y : Nat → Int → Int} {i : Nat} : drK X X Y Y i := ⟨fun _ _ _ => rfl, fun _ _ => rfl, fun _ _ => rfl⟩
theorem drK.tr {X X1 X2 Y Y1 Y2 : Nat → Int → Int} {i : Nat} (h : drK X X1 Y Y1 i) (g : drK X1 X2 Y1 Y2 i) : drK X X2 Y Y2 i :=
  ⟨fun a h1 h2 => (g.1 a h1 h2).trans (h.1 a h1 h2), fun s h1 => (g.2.1 s h1).trans (h.2.1 s h1), fun a h1 => (g.2.2 a h1).trans (h.2.2 a h1)⟩
theorem fK.toD {X X1 Y Y1 : Nat → Int → Int} {i : Nat} (h : fK X X1 Y Y1 i) : drK X X1 Y Y1 i := ⟨h.1, fun s hs => h.2.1 s (by omega), h.2.2⟩
theorem drK_t {X X1 Y Y1 : Nat → Int → Int} {i : Nat} (h : drK X X1 Y Y1 i) : tS X X1 i := ⟨h.1 _ (by omega) (by omega), h.1 _ (by omega) (by omega), h.2.1 _ (by omega), h.2.1 _ (by omega), h.2.1 _ (by omega), h.2.1 _ (by omega), h.2.1 _ (by omega)⟩
theorem drK_x {X X1 Y Y1 : Nat → Int → Int} {i : Nat} (h : drK X X1 Y Y1 i) : rCx X1 i = rCx X i := by
  have t := drK_t h
  unfold rCx
  rw [rP_t t, rW_t t, rG_t t, sdf_t t, t.2.2.2.2.2.1, h.2.1 29 (by omega)]
/-- another seed -/
theorem seed_k {X X1 Y : Nat → Int → Int} {i : Nat} {v q : Int} (e : X1 = zU X i 64 v) : drK X X1 Y Y i ∧ (oPl X Y i q → oPl X1 Y i q) ∧ (∀ n t, cR X i n t → cR X1 i n t) ∧ X1 i 64 = v ∧ X1 i 27 = X i 27 := by
  have o : ∀ a, a ≠ i → X1 a = X a := fun a h => by rw [e, zU_o h]
  have n : ∀ s, s ≠ 64 → X1 i s = X i s := fun s h => by rw [e, zU_n (by omega)]
  have d : drK X X1 Y Y i := ⟨fun a h _ => o a h, fun s hs => n s (by omega), fun _ _ => rfl⟩
  have t := drK_t d
  have ec : cX X1 i = cX X i := cX_N (fun s hs => n s (fun h => by rw [h] at hs; revert hs; decide))
  refine ⟨d, fun h => ⟨?_, ?_⟩, fun m t h => ⟨by rw [ec]; exact h.1, fun j hj hw => by rw [o _ (by omega)]; exact h.2 j hj hw⟩, by rw [e, zU_s], n 27 (by decide)⟩
  · obtain ⟨⟨hg, ha, hb, hbs⟩, hr, hl, h35, hM⟩ := h.1
    refine ⟨⟨oG_t t hg, oA_t t ha, by rw [n 27 (by decide)]; exact hb, by rw [n 27 (by decide)]; exact oBs_t t hbs⟩, by rw [n 28 (by decide), n 29 (by decide)]; exact hr, fun j hj => ?_, ?_, fun j hj M hm => ?_⟩
    · rw [n 27 (by decide)] at hj
      rw [rP_t t, rW_t t, rG_t t, o _ (by omega)]
      exact hl j hj
    · rw [n 35 (by decide), n 27 (by decide), sdf_t t]
      exact h35
    · rw [n 27 (by decide)] at hj
      rw [rS_t t] at hm
      unfold lM
      rw [o _ (by omega)]
      exact hM j hj M hm
  · rw [n 27 (by decide)]
    refine ⟨?_, ?_, ?_⟩
    · show oCs (cX X1 i) _ _ _
      rw [ec]
      exact h.2.1
    · show mHas (X1 i 36) 0 = true
      rw [n 36 (by decide)]
      exact h.2.2.1
    · show 0 ≤ X1 i 28 ∧ X1 i 28 ≤ 1
      rw [n 28 (by decide)]
      exact h.2.2.2
def rDrawn (X : Nat → Int → Int) (i : Nat) (n c s k w : Int) : Int := if mIn k 0 60 && rOk X i n c then csSt (rCx (hZ X i n c 0) i) (rLd (hZ X i n c 0) i) (X (i + 6) (13 * n + 6)) (csDn (rCx (hZ X i n c 0) i) (s, csI (hZ X i n c 0 i 28)) k.toNat).2 w else -1
theorem oWh_dr {x : Cx} {s : Int × Cs} (h0 : 0 < xN x) (hn : xN x ≤ 15) (h : oWh x s.2) : oWh x (csDr x s).2 := by
  have t : ∀ w v, oWh x (csTry x s.2 w v) := fun w v => by
    unfold csTry
    split
    · exact oWh_do h0 hn h
    · exact h
  unfold csDr
  split
  · exact t _ _
  · split
    · exact h
    · exact t _ _
theorem oWh_dn {x : Cx} {s : Int × Cs} (h0 : 0 < xN x) (hn : xN x ≤ 15) (h : oWh x s.2) : ∀ k, oWh x (csDn x s k).2
  | 0 => h
  | k + 1 => oWh_dr h0 hn (oWh_dn h0 hn h k)
abbrev cX11_drawDeed : ByteArray := prog_13_method_116_code
def yX11_drawDeed : MethodName := ⟨RX11, "drawDeed", "()V"⟩
theorem dX11_drawDeed_0 : decode cX11_drawDeed 0 = .ok (.aload_n 0, 1) := by decide +kernel
theorem dX11_drawDeed_1 : decode cX11_drawDeed 1 = .ok (.bipush 10, 2) := by decide +kernel
theorem dX11_drawDeed_3 : decode cX11_drawDeed 3 = .ok (.invokevirtual 541, 3) := by decide +kernel
theorem dX11_drawDeed_6 : decode cX11_drawDeed 6 = .ok (.istore_n 1, 1) := by decide +kernel
theorem dX11_drawDeed_7 : decode cX11_drawDeed 7 = .ok (.iload_n 1, 1) := by decide +kernel
theorem dX11_drawDeed_8 : decode cX11_drawDeed 8 = .ok (.bipush 9, 2) := by decide +kernel
theorem dX11_drawDeed_10 : decode cX11_drawDeed 10 = .ok (.if_icmp .ne 17, 3) := by decide +kernel
theorem dX11_drawDeed_13 : decode cX11_drawDeed 13 = .ok (.aload_n 0, 1) := by decide +kernel
theorem dX11_drawDeed_14 : decode cX11_drawDeed 14 = .ok (.iconst 3, 1) := by decide +kernel
theorem dX11_drawDeed_15 : decode cX11_drawDeed 15 = .ok (.aload_n 0, 1) := by decide +kernel
theorem dX11_drawDeed_16 : decode cX11_drawDeed 16 = .ok (.iconst 2, 1) := by decide +kernel
theorem dX11_drawDeed_17 : decode cX11_drawDeed 17 = .ok (.invokevirtual 541, 3) := by decide +kernel
theorem dX11_drawDeed_20 : decode cX11_drawDeed 20 = .ok (.invokevirtual 394, 3) := by decide +kernel
theorem dX11_drawDeed_23 : decode cX11_drawDeed 23 = .ok (.pop, 1) := by decide +kernel
theorem dX11_drawDeed_24 : decode cX11_drawDeed 24 = .ok (.goto 48, 3) := by decide +kernel
theorem dX11_drawDeed_27 : decode cX11_drawDeed 27 = .ok (.aload_n 0, 1) := by decide +kernel
theorem dX11_drawDeed_28 : decode cX11_drawDeed 28 = .ok (.getfield 255, 3) := by decide +kernel
theorem dX11_drawDeed_31 : decode cX11_drawDeed 31 = .ok (.iconst 1, 1) := by decide +kernel
theorem dX11_drawDeed_32 : decode cX11_drawDeed 32 = .ok (.if_icmp .le 40, 3) := by decide +kernel
theorem dX11_drawDeed_35 : decode cX11_drawDeed 35 = .ok (.aload_n 0, 1) := by decide +kernel
theorem dX11_drawDeed_36 : decode cX11_drawDeed 36 = .ok (.iload_n 1, 1) := by decide +kernel
theorem dX11_drawDeed_37 : decode cX11_drawDeed 37 = .ok (.iconst 4, 1) := by decide +kernel
theorem dX11_drawDeed_38 : decode cX11_drawDeed 38 = .ok (.if_icmp .ge 7, 3) := by decide +kernel
theorem dX11_drawDeed_41 : decode cX11_drawDeed 41 = .ok (.iconst 0, 1) := by decide +kernel
theorem dX11_drawDeed_42 : decode cX11_drawDeed 42 = .ok (.goto 14, 3) := by decide +kernel
theorem dX11_drawDeed_45 : decode cX11_drawDeed 45 = .ok (.iload_n 1, 1) := by decide +kernel
theorem dX11_drawDeed_46 : decode cX11_drawDeed 46 = .ok (.bipush 8, 2) := by decide +kernel
theorem dX11_drawDeed_48 : decode cX11_drawDeed 48 = .ok (.if_icmp .ge 7, 3) := by decide +kernel
theorem dX11_drawDeed_51 : decode cX11_drawDeed 51 = .ok (.iconst 1, 1) := by decide +kernel
theorem dX11_drawDeed_52 : decode cX11_drawDeed 52 = .ok (.goto 4, 3) := by decide +kernel
theorem dX11_drawDeed_55 : decode cX11_drawDeed 55 = .ok (.iconst 2, 1) := by decide +kernel
theorem dX11_drawDeed_56 : decode cX11_drawDeed 56 = .ok (.iconst 1, 1) := by decide +kernel
theorem dX11_drawDeed_57 : decode cX11_drawDeed 57 = .ok (.aload_n 0, 1) := by decide +kernel
theorem dX11_drawDeed_58 : decode cX11_drawDeed 58 = .ok (.aload_n 0, 1) := by decide +kernel
theorem dX11_drawDeed_59 : decode cX11_drawDeed 59 = .ok (.getfield 255, 3) := by decide +kernel
theorem dX11_drawDeed_62 : decode cX11_drawDeed 62 = .ok (.iconst 1, 1) := by decide +kernel
theorem dX11_drawDeed_63 : decode cX11_drawDeed 63 = .ok (.isub, 1) := by decide +kernel
theorem dX11_drawDeed_64 : decode cX11_drawDeed 64 = .ok (.invokevirtual 541, 3) := by decide +kernel
theorem dX11_drawDeed_67 : decode cX11_drawDeed 67 = .ok (.iadd, 1) := by decide +kernel
theorem dX11_drawDeed_68 : decode cX11_drawDeed 68 = .ok (.invokevirtual 394, 3) := by decide +kernel
theorem dX11_drawDeed_71 : decode cX11_drawDeed 71 = .ok (.pop, 1) := by decide +kernel
theorem dX11_drawDeed_72 : decode cX11_drawDeed 72 = .ok (.return_, 1) := by decide +kernel
theorem q_1943 : Cond.methodLink RX11 541 yX11_draw ∈ zTB := zmem 1943 (by decide +kernel) rfl
theorem q_1945 : Cond.instanceMethod yX11_draw ∈ zTB := zmem 1945 (by decide +kernel) rfl
theorem q_114 : Cond.selects RX11 yX11_draw yX11_draw ∈ zTB := zmem 114 (by decide +kernel) rfl
theorem q_1946 : Cond.code yX11_draw cX11_draw 2 (some .int) ∈ zTB := zmem 1946 (by decide +kernel) rfl
theorem k_RX11_541 : zLv RX11 541 RX11 yX11_draw cX11_draw 2 (some .int) 1 := ⟨⟨q_1943, q_1945, q_114, q_140, q_1946⟩, rfl, ⟨by decide, by decide⟩, by decide +kernel⟩
def F_X11_drawDeed (i : Nat) (X Y : Nat → Int → Int) (R : Nat → Int → Option Nat)  : Prop := (∀ i j, rI (X i j)) → (∀ i j, rL (Y i j)) → (1 ≤ (10 : Int)) ∧ (∀ r3 : Int, rI r3 → ∀ X2 : Nat → Int → Int, (∀ i j, rI (X2 i j)) → (r3 = drV (X i 64) ((10 : Int)) ∧ (X2) = zU X i 64 (drS (X i 64))) → (((¬ r3 = 9) → ((((X2 (i) 27) ≤ 1) → (drK X (X2) Y (Y) i ∧ (∀ q, 0 ≤ q → oPl X Y i q → oPl (X2) (Y) i (q + 1)) ∧ ∀ t, cR X i (X i 27).toNat t → (X2) i 64 = (csDr (rCx X i) (X i 64, t)).1 ∧ cR (X2) i (X i 27).toNat (csDr (rCx X i) (X i 64, t)).2)) ∧ ((¬ ((X2 (i) 27) ≤ 1)) → (((4 ≤ r3) → (((8 ≤ r3) → ((rI ((X2 (i) 27) - 1)) ∧ ((1 ≤ (X2 (i) 27) - 1) ∧ (∀ r11 : Int, rI r11 → ∀ X10 : Nat → Int → Int, (∀ i j, rI (X10 i j)) → (r11 = drV (X2 i 64) ((X2 (i) 27) - 1) ∧ (X10) = zU X2 i 64 (drS (X2 i 64))) → ((rI (1 + r11)) ∧ ((oH X10 Y i ∧ oCS (cX X10 i, kX X10 i) (X10 i 27).toNat 900 900 ∧ (0 ≤ (2 : Int) ∧ (2 : Int) ≤ 3) ∧ ((2 : Int) = 3 → 0 ≤ 1 + r11 ∧ 1 + r11 ≤ 1) ∧ ((2 : Int) ≠ 3 → 1 ≤ 1 + r11 ∧ 1 + r11 ≤ 14)) ∧ (∀ r16 : Bool, ∀ X14 : Nat → Int → Int, (∀ i j, rI (X14 i j)) → ∀ Y15 : Nat → Int → Int, (∀ i j, rL (Y15 i j)) → (r16 = csOk (X10 i 27).toNat (cX X10 i) ((2 : Int)) (1 + r11) ∧ fK X10 (X14) Y (Y15) i ∧ (r16 = false → (X14) = X10 ∧ (Y15) = Y) ∧ (r16 = true → ∀ t, cR X10 i (X10 i 27).toNat t → cR (X14) i (X10 i 27).toNat (csDo (rCx X10 i) t ((2 : Int)) (1 + r11)))) → (drK X (X14) Y (Y15) i ∧ (∀ q, 0 ≤ q → oPl X Y i q → oPl (X14) (Y15) i (q + 1)) ∧ ∀ t, cR X i (X i 27).toNat t → (X14) i 64 = (csDr (rCx X i) (X i 64, t)).1 ∧ cR (X14) i (X i 27).toNat (csDr (rCx X i) (X i 64, t)).2)))))))) ∧ ((¬ (8 ≤ r3)) → ((rI ((X2 (i) 27) - 1)) ∧ ((1 ≤ (X2 (i) 27) - 1) ∧ (∀ r20 : Int, rI r20 → ∀ X19 : Nat → Int → Int, (∀ i j, rI (X19 i j)) → (r20 = drV (X2 i 64) ((X2 (i) 27) - 1) ∧ (X19) = zU X2 i 64 (drS (X2 i 64))) → ((rI (1 + r20)) ∧ ((oH X19 Y i ∧ oCS (cX X19 i, kX X19 i) (X19 i 27).toNat 900 900 ∧ (0 ≤ (1 : Int) ∧ (1 : Int) ≤ 3) ∧ ((1 : Int) = 3 → 0 ≤ 1 + r20 ∧ 1 + r20 ≤ 1) ∧ ((1 : Int) ≠ 3 → 1 ≤ 1 + r20 ∧ 1 + r20 ≤ 14)) ∧ (∀ r25 : Bool, ∀ X23 : Nat → Int → Int, (∀ i j, rI (X23 i j)) → ∀ Y24 : Nat → Int → Int, (∀ i j, rL (Y24 i j)) → (r25 = csOk (X19 i 27).toNat (cX X19 i) ((1 : Int)) (1 + r20) ∧ fK X19 (X23) Y (Y24) i ∧ (r25 = false → (X23) = X19 ∧ (Y24) = Y) ∧ (r25 = true → ∀ t, cR X19 i (X19 i 27).toNat t → cR (X23) i (X19 i 27).toNat (csDo (rCx X19 i) t ((1 : Int)) (1 + r20)))) → (drK X (X23) Y (Y24) i ∧ (∀ q, 0 ≤ q → oPl X Y i q → oPl (X23) (Y24) i (q + 1)) ∧ ∀ t, cR X i (X i 27).toNat t → (X23) i 64 = (csDr (rCx X i) (X i 64, t)).1 ∧ cR (X23) i (X i 27).toNat (csDr (rCx X i) (X i 64, t)).2)))))))))) ∧ ((¬ (4 ≤ r3)) → ((rI ((X2 (i) 27) - 1)) ∧ ((1 ≤ (X2 (i) 27) - 1) ∧ (∀ r29 : Int, rI r29 → ∀ X28 : Nat → Int → Int, (∀ i j, rI (X28 i j)) → (r29 = drV (X2 i 64) ((X2 (i) 27) - 1) ∧ (X28) = zU X2 i 64 (drS (X2 i 64))) → ((rI (1 + r29)) ∧ ((oH X28 Y i ∧ oCS (cX X28 i, kX X28 i) (X28 i 27).toNat 900 900 ∧ (0 ≤ (0 : Int) ∧ (0 : Int) ≤ 3) ∧ ((0 : Int) = 3 → 0 ≤ 1 + r29 ∧ 1 + r29 ≤ 1) ∧ ((0 : Int) ≠ 3 → 1 ≤ 1 + r29 ∧ 1 + r29 ≤ 14)) ∧ (∀ r34 : Bool, ∀ X32 : Nat → Int → Int, (∀ i j, rI (X32 i j)) → ∀ Y33 : Nat → Int → Int, (∀ i j, rL (Y33 i j)) → (r34 = csOk (X28 i 27).toNat (cX X28 i) ((0 : Int)) (1 + r29) ∧ fK X28 (X32) Y (Y33) i ∧ (r34 = false → (X32) = X28 ∧ (Y33) = Y) ∧ (r34 = true → ∀ t, cR X28 i (X28 i 27).toNat t → cR (X32) i (X28 i 27).toNat (csDo (rCx X28 i) t ((0 : Int)) (1 + r29)))) → (drK X (X32) Y (Y33) i ∧ (∀ q, 0 ≤ q → oPl X Y i q → oPl (X32) (Y33) i (q + 1)) ∧ ∀ t, cR X i (X i 27).toNat t → (X32) i 64 = (csDr (rCx X i) (X i 64, t)).1 ∧ cR (X32) i (X i 27).toNat (csDr (rCx X i) (X i 64, t)).2)))))))))))) ∧ ((¬ (¬ r3 = 9)) → ((1 ≤ (2 : Int)) ∧ (∀ r37 : Int, rI r37 → ∀ X36 : Nat → Int → Int, (∀ i j, rI (X36 i j)) → (r37 = drV (X2 i 64) ((2 : Int)) ∧ (X36) = zU X2 i 64 (drS (X2 i 64))) → ((oH X36 Y i ∧ oCS (cX X36 i, kX X36 i) (X36 i 27).toNat 900 900 ∧ (0 ≤ (3 : Int) ∧ (3 : Int) ≤ 3) ∧ ((3 : Int) = 3 → 0 ≤ r37 ∧ r37 ≤ 1) ∧ ((3 : Int) ≠ 3 → 1 ≤ r37 ∧ r37 ≤ 14)) ∧ (∀ r41 : Bool, ∀ X39 : Nat → Int → Int, (∀ i j, rI (X39 i j)) → ∀ Y40 : Nat → Int → Int, (∀ i j, rL (Y40 i j)) → (r41 = csOk (X36 i 27).toNat (cX X36 i) ((3 : Int)) (r37) ∧ fK X36 (X39) Y (Y40) i ∧ (r41 = false → (X39) = X36 ∧ (Y40) = Y) ∧ (r41 = true → ∀ t, cR X36 i (X36 i 27).toNat t → cR (X39) i (X36 i 27).toNat (csDo (rCx X36 i) t ((3 : Int)) (r37)))) → (drK X (X39) Y (Y40) i ∧ (∀ q, 0 ≤ q → oPl X Y i q → oPl (X39) (Y40) i (q + 1)) ∧ ∀ t, cR X i (X i 27).toNat t → (X39) i 64 = (csDr (rCx X i) (X i 64, t)).1 ∧ cR (X39) i (X i 27).toNat (csDr (rCx X i) (X i 64, t)).2))))))))
set_option maxHeartbeats 4000000 in
set_option maxRecDepth 100000 in
theorem w_X11_drawDeed {l : Launch} {D : va_G} {cy : Nat → ClassId} {bs N : Nat} {sa : Nat → Nat} {kd len : Nat → Nat} {X Y : Nat → Int → Int} {R : Nat → Int → Option Nat} {i : Nat} (hM : zM N kd len R i)  (hF : F_X11_drawDeed i X Y R ) : Met l yX11_drawDeed (.code yX11_drawDeed cX11_drawDeed 2 none :: zTB) (zRm 6 135) (zPc D cy bs sa N kd len X Y R [.ref (bs + (i))]) (zQv D cy bs N kd len (fun st => st.2.2 = R ∧ (drK X (st.1) Y (st.2.1) i ∧ (∀ q, 0 ≤ q → oPl X Y i q → oPl (st.1) (st.2.1) i (q + 1)) ∧ ∀ t, cR X i (X i 27).toNat t → (st.1) i 64 = (csDr (rCx X i) (X i 64, t)).1 ∧ cR (st.1) i (X i 27).toNat (csDr (rCx X i) (X i 64, t)).2))) 0 0 (zA bs) := by
  refine zstart (by decide) (Nat.le_of_ble_eq_true rfl) ?_
  intro p e s m args below meth c ls C hE hH hr hlk hnm hl hargs
  have hF := hF hH.2.2.1 hH.2.2.2
  have hS : va_S (zA bs) s.heap s.heap [] := va_S.rf
  have hl : lv_has ls 2 [(0, .ref (bs + (i)))] := hl
  refine lv_aload_n C.1 C.2.1 dX11_drawDeed_0 rfl (lv_at hl 0 rfl) ?_
  refine zd_bipush C (by decide) dX11_drawDeed_1 ?_
  obtain ⟨o1, hF⟩ := hF
  refine zgoi (zrunV (As := [.int (zI (10))]) (rest := []) C hE hH hS hl.1 (c_X11_draw (l := l) hM (10) (by decide) o1) k_RX11_541 ⟨Nat.le_of_ble_eq_true rfl, Nat.le_of_ble_eq_true rfl⟩ (zM_n0 hM) (zM_k0 hM) rfl rfl rfl (Nat.le_of_ble_eq_true rfl) dX11_drawDeed_3 ⟨Nat.zero_le _, Nat.zero_le _⟩) hS (fun r3 X2 Yq Rq H locs hrq hq hH hS => ?_)
  obtain ⟨h9Y, h9R, hq⟩ := hq
  dsimp only at h9Y h9R
  rw [h9Y, h9R] at hH
  have hr3 := hrq
  have hF := hF r3 hrq X2 hH.2.2.1 hq
  refine lv_istore_n (lv' := [(1, .int (zI (r3))), (0, .ref (bs + (i)))]) C.1 C.2.1 dX11_drawDeed_6 rfl hl (by decide) rfl (fun ls hl => ?_)
  refine lv_iload_n C.1 C.2.1 dX11_drawDeed_7 rfl (lv_at hl 0 rfl) ?_
  refine zd_bipush C (by decide) dX11_drawDeed_8 ?_
  refine zd_icmp_ne C hr3 (by decide) 27 dX11_drawDeed_10 (by decide) (fun c4 => ?_) (fun c4 => ?_)
  · have hF := hF.1 c4
    refine lv_aload_n C.1 C.2.1 dX11_drawDeed_27 rfl (lv_at hl 1 rfl) ?_
    refine zg11_27 C hH (zM_n0 hM) (zM_k0 hM) q_1314 dX11_drawDeed_28 ?_
    refine zd_iconst C dX11_drawDeed_31 ?_
    refine zd_icmp_le C (hH.2.2.1 _ _) (by decide) 72 dX11_drawDeed_32 (by decide) (fun c5 => ?_) (fun c5 => ?_)
    · have hF := hF.1 c5
      exact zd_vret C hr hlk hH hS (⟨rfl, hF⟩) dX11_drawDeed_72
    · have hF := hF.2 c5
      refine lv_aload_n C.1 C.2.1 dX11_drawDeed_35 rfl (lv_at hl 1 rfl) ?_
      refine lv_iload_n C.1 C.2.1 dX11_drawDeed_36 rfl (lv_at hl 0 rfl) ?_
      refine zd_iconst C dX11_drawDeed_37 ?_
      refine zd_icmp_ge C hr3 (by decide) 45 dX11_drawDeed_38 (by decide) (fun c6 => ?_) (fun c6 => ?_)
      · have hF := hF.1 c6
        refine lv_iload_n C.1 C.2.1 dX11_drawDeed_45 rfl (lv_at hl 0 rfl) ?_
        refine zd_bipush C (by decide) dX11_drawDeed_46 ?_
        refine zd_icmp_ge C hr3 (by decide) 55 dX11_drawDeed_48 (by decide) (fun c7 => ?_) (fun c7 => ?_)
        · have hF := hF.1 c7
          refine zd_iconst C dX11_drawDeed_55 ?_
          refine zd_iconst C dX11_drawDeed_56 ?_
          refine lv_aload_n C.1 C.2.1 dX11_drawDeed_57 rfl (lv_at hl 1 rfl) ?_
          refine lv_aload_n C.1 C.2.1 dX11_drawDeed_58 rfl (lv_at hl 1 rfl) ?_
          refine zg11_27 C hH (zM_n0 hM) (zM_k0 hM) q_1314 dX11_drawDeed_59 ?_
          refine zd_iconst C dX11_drawDeed_62 ?_
          refine zd_isub C dX11_drawDeed_63 ?_
          obtain ⟨o8, hF⟩ := hF
          obtain ⟨o9, hF⟩ := hF
          refine zgoi (zrunV (As := [.int (zI ((X2 (i) 27) - 1))]) (rest := [.int (zI (1)), .int (zI (2)), .ref (bs + (i))]) C hE hH hS hl.1 (c_X11_draw (l := l) hM ((X2 (i) 27) - 1) o8 o9) k_RX11_541 ⟨Nat.le_of_ble_eq_true rfl, Nat.le_of_ble_eq_true rfl⟩ (zM_n0 hM) (zM_k0 hM) rfl rfl rfl (Nat.le_of_ble_eq_true rfl) dX11_drawDeed_64 ⟨Nat.zero_le _, Nat.zero_le _⟩) hS (fun r11 X10 Yq Rq H locs hrq hq hH hS => ?_)
          obtain ⟨h9Y, h9R, hq⟩ := hq
          dsimp only at h9Y h9R
          rw [h9Y, h9R] at hH
          have hr11 := hrq
          have hF := hF r11 hrq X10 hH.2.2.1 hq
          refine zd_iadd C dX11_drawDeed_67 ?_
          obtain ⟨o12, hF⟩ := hF
          obtain ⟨o13, hF⟩ := hF
          refine zgoi (zrunV (As := [.int (zI (2)), .int (zI (1 + r11))]) (rest := []) C hE hH hS hl.1 (c_X11_does (l := l) hM (2) (by decide) (1 + r11) o12 o13) k_RX11_394 ⟨Nat.le_of_ble_eq_true rfl, Nat.le_of_ble_eq_true rfl⟩ (zM_n0 hM) (zM_k0 hM) rfl rfl rfl (Nat.le_of_ble_eq_true rfl) dX11_drawDeed_68 ⟨Nat.zero_le _, Nat.zero_le _⟩) hS (fun rq X14 Y15 Rq H locs hrq hq hH hS => ?_)
          obtain ⟨h9R, hq⟩ := hq
          dsimp only at h9R
          rw [h9R] at hH
          obtain ⟨r16, h91, hq⟩ := hq
          subst h91
          have hF := hF r16 X14 hH.2.2.1 Y15 hH.2.2.2 hq
          refine lv_pop C.1 C.2.1 dX11_drawDeed_71 rfl ?_
          exact zd_vret C hr hlk hH hS (⟨rfl, hF⟩) dX11_drawDeed_72
        · have hF := hF.2 c7
          refine zd_iconst C dX11_drawDeed_51 ?_
          refine lv_goto (tgt := 56) C.1 C.2.1 dX11_drawDeed_52 (by decide) ?_
          refine zd_iconst C dX11_drawDeed_56 ?_
          refine lv_aload_n C.1 C.2.1 dX11_drawDeed_57 rfl (lv_at hl 1 rfl) ?_
          refine lv_aload_n C.1 C.2.1 dX11_drawDeed_58 rfl (lv_at hl 1 rfl) ?_
          refine zg11_27 C hH (zM_n0 hM) (zM_k0 hM) q_1314 dX11_drawDeed_59 ?_
          refine zd_iconst C dX11_drawDeed_62 ?_
          refine zd_isub C dX11_drawDeed_63 ?_
          obtain ⟨o17, hF⟩ := hF
          obtain ⟨o18, hF⟩ := hF
          refine zgoi (zrunV (As := [.int (zI ((X2 (i) 27) - 1))]) (rest := [.int (zI (1)), .int (zI (1)), .ref (bs + (i))]) C hE hH hS hl.1 (c_X11_draw (l := l) hM ((X2 (i) 27) - 1) o17 o18) k_RX11_541 ⟨Nat.le_of_ble_eq_true rfl, Nat.le_of_ble_eq_true rfl⟩ (zM_n0 hM) (zM_k0 hM) rfl rfl rfl (Nat.le_of_ble_eq_true rfl) dX11_drawDeed_64 ⟨Nat.zero_le _, Nat.zero_le _⟩) hS (fun r20 X19 Yq Rq H locs hrq hq hH hS => ?_)
          obtain ⟨h9Y, h9R, hq⟩ := hq
          dsimp only at h9Y h9R
          rw [h9Y, h9R] at hH
          have hr20 := hrq
          have hF := hF r20 hrq X19 hH.2.2.1 hq
          refine zd_iadd C dX11_drawDeed_67 ?_
          obtain ⟨o21, hF⟩ := hF
          obtain ⟨o22, hF⟩ := hF
          refine zgoi (zrunV (As := [.int (zI (1)), .int (zI (1 + r20))]) (rest := []) C hE hH hS hl.1 (c_X11_does (l := l) hM (1) (by decide) (1 + r20) o21 o22) k_RX11_394 ⟨Nat.le_of_ble_eq_true rfl, Nat.le_of_ble_eq_true rfl⟩ (zM_n0 hM) (zM_k0 hM) rfl rfl rfl (Nat.le_of_ble_eq_true rfl) dX11_drawDeed_68 ⟨Nat.zero_le _, Nat.zero_le _⟩) hS (fun rq X23 Y24 Rq H locs hrq hq hH hS => ?_)
          obtain ⟨h9R, hq⟩ := hq
          dsimp only at h9R
          rw [h9R] at hH
          obtain ⟨r25, h91, hq⟩ := hq
          subst h91
          have hF := hF r25 X23 hH.2.2.1 Y24 hH.2.2.2 hq
          refine lv_pop C.1 C.2.1 dX11_drawDeed_71 rfl ?_
          exact zd_vret C hr hlk hH hS (⟨rfl, hF⟩) dX11_drawDeed_72
      · have hF := hF.2 c6
        refine zd_iconst C dX11_drawDeed_41 ?_
        refine lv_goto (tgt := 56) C.1 C.2.1 dX11_drawDeed_42 (by decide) ?_
        refine zd_iconst C dX11_drawDeed_56 ?_
        refine lv_aload_n C.1 C.2.1 dX11_drawDeed_57 rfl (lv_at hl 1 rfl) ?_
        refine lv_aload_n C.1 C.2.1 dX11_drawDeed_58 rfl (lv_at hl 1 rfl) ?_
        refine zg11_27 C hH (zM_n0 hM) (zM_k0 hM) q_1314 dX11_drawDeed_59 ?_
        refine zd_iconst C dX11_drawDeed_62 ?_
        refine zd_isub C dX11_drawDeed_63 ?_
        obtain ⟨o26, hF⟩ := hF
        obtain ⟨o27, hF⟩ := hF
        refine zgoi (zrunV (As := [.int (zI ((X2 (i) 27) - 1))]) (rest := [.int (zI (1)), .int (zI (0)), .ref (bs + (i))]) C hE hH hS hl.1 (c_X11_draw (l := l) hM ((X2 (i) 27) - 1) o26 o27) k_RX11_541 ⟨Nat.le_of_ble_eq_true rfl, Nat.le_of_ble_eq_true rfl⟩ (zM_n0 hM) (zM_k0 hM) rfl rfl rfl (Nat.le_of_ble_eq_true rfl) dX11_drawDeed_64 ⟨Nat.zero_le _, Nat.zero_le _⟩) hS (fun r29 X28 Yq Rq H locs hrq hq hH hS => ?_)
        obtain ⟨h9Y, h9R, hq⟩ := hq
        dsimp only at h9Y h9R
        rw [h9Y, h9R] at hH
        have hr29 := hrq
        have hF := hF r29 hrq X28 hH.2.2.1 hq
        refine zd_iadd C dX11_drawDeed_67 ?_
        obtain ⟨o30, hF⟩ := hF
        obtain ⟨o31, hF⟩ := hF
        refine zgoi (zrunV (As := [.int (zI (0)), .int (zI (1 + r29))]) (rest := []) C hE hH hS hl.1 (c_X11_does (l := l) hM (0) (by decide) (1 + r29) o30 o31) k_RX11_394 ⟨Nat.le_of_ble_eq_true rfl, Nat.le_of_ble_eq_true rfl⟩ (zM_n0 hM) (zM_k0 hM) rfl rfl rfl (Nat.le_of_ble_eq_true rfl) dX11_drawDeed_68 ⟨Nat.zero_le _, Nat.zero_le _⟩) hS (fun rq X32 Y33 Rq H locs hrq hq hH hS => ?_)
        obtain ⟨h9R, hq⟩ := hq
        dsimp only at h9R
        rw [h9R] at hH
        obtain ⟨r34, h91, hq⟩ := hq
        subst h91
        have hF := hF r34 X32 hH.2.2.1 Y33 hH.2.2.2 hq
        refine lv_pop C.1 C.2.1 dX11_drawDeed_71 rfl ?_
        exact zd_vret C hr hlk hH hS (⟨rfl, hF⟩) dX11_drawDeed_72
  · have hF := hF.2 c4
    refine lv_aload_n C.1 C.2.1 dX11_drawDeed_13 rfl (lv_at hl 1 rfl) ?_
    refine zd_iconst C dX11_drawDeed_14 ?_
    refine lv_aload_n C.1 C.2.1 dX11_drawDeed_15 rfl (lv_at hl 1 rfl) ?_
    refine zd_iconst C dX11_drawDeed_16 ?_
    obtain ⟨o35, hF⟩ := hF
    refine zgoi (zrunV (As := [.int (zI (2))]) (rest := [.int (zI (3)), .ref (bs + (i))]) C hE hH hS hl.1 (c_X11_draw (l := l) hM (2) (by decide) o35) k_RX11_541 ⟨Nat.le_of_ble_eq_true rfl, Nat.le_of_ble_eq_true rfl⟩ (zM_n0 hM) (zM_k0 hM) rfl rfl rfl (Nat.le_of_ble_eq_true rfl) dX11_drawDeed_17 ⟨Nat.zero_le _, Nat.zero_le _⟩) hS (fun r37 X36 Yq Rq H locs hrq hq hH hS => ?_)
    obtain ⟨h9Y, h9R, hq⟩ := hq
    dsimp only at h9Y h9R
    rw [h9Y, h9R] at hH
    have hr37 := hrq
    have hF := hF r37 hrq X36 hH.2.2.1 hq
    obtain ⟨o38, hF⟩ := hF
    refine zgoi (zrunV (As := [.int (zI (3)), .int (zI (r37))]) (rest := []) C hE hH hS hl.1 (c_X11_does (l := l) hM (3) (by decide) (r37) hr37 o38) k_RX11_394 ⟨Nat.le_of_ble_eq_true rfl, Nat.le_of_ble_eq_true rfl⟩ (zM_n0 hM) (zM_k0 hM) rfl rfl rfl (Nat.le_of_ble_eq_true rfl) dX11_drawDeed_20 ⟨Nat.zero_le _, Nat.zero_le _⟩) hS (fun rq X39 Y40 Rq H locs hrq hq hH hS => ?_)
    obtain ⟨h9R, hq⟩ := hq
    dsimp only at h9R
    rw [h9R] at hH
    obtain ⟨r41, h91, hq⟩ := hq
    subst h91
    have hF := hF r41 X39 hH.2.2.1 Y40 hH.2.2.2 hq
    refine lv_pop C.1 C.2.1 dX11_drawDeed_23 rfl ?_
    refine lv_goto (tgt := 72) C.1 C.2.1 dX11_drawDeed_24 (by decide) ?_
    exact zd_vret C hr hlk hH hS (⟨rfl, hF⟩) dX11_drawDeed_72
theorem v_X11_drawDeed {X Y : Nat → Int → Int} {R : Nat → Int → Option Nat} {i : Nat}  (hp : ∃ q : Int, 0 ≤ q ∧ q ≤ 59 ∧ oPl X Y i q) : F_X11_drawDeed i X Y R  := by
  unfold F_X11_drawDeed
  intro hX hY
  obtain ⟨q, q0, q59, pl⟩ := hp
  have h27 := pl.1.1.2.2.1
  refine ⟨?_, ?_⟩
  · first | omega | exact ⟨by omega, by omega⟩ | decide | assumption | exact ⟨by omega, by omega, by omega⟩ | exact ⟨by decide, by decide⟩
  intro r3
  intro _
  intro X2
  intro rX2
  intro h1
  obtain ⟨e3, e2⟩ := h1
  have s2 := fun q => seed_k (Y := Y) (q := q) e2
  have g64 : X2 i 64 = drS (X i 64) := (s2 0).2.2.2.1
  have s27 : X2 i 27 = X i 27 := (s2 0).2.2.2.2
  have v3 := drV_b (s := X i 64) (n := 10) (by decide)
  rw [← e3] at v3
  rw [s27]
  refine ⟨?_, ?_⟩
  · intro c1
    refine ⟨?_, ?_⟩
    · intro c2
      refine ⟨(s2 0).1, fun q1 q10 p1 => ?_, fun t ht => ?_⟩
      · have u := (s2 q1).2.1 p1
        exact ⟨u.1, oCs_up (by omega) (by omega) u.2.1, u.2.2⟩
      · have ed : csDr (rCx X i) (X i 64, t) = (drS (X i 64), t) := by
          show (if drV (X i 64) 10 = 9 then _ else _) = _
          have en : ((xN (rCx X i) : Nat) : Int) = X i 27 := by show (((X i 27).toNat : Nat) : Int) = _; omega
          rw [← e3, en, if_neg c1, if_pos c2]
        rw [ed, g64]
        exact ⟨rfl, (s2 0).2.2.1 _ _ ht⟩
    intro c3
    refine ⟨?_, ?_⟩
    · intro c4
      refine ⟨?_, ?_⟩
      · intro c5
        refine ⟨?_, ?_⟩
        · first | omega | exact ⟨by omega, by omega⟩ | decide | assumption | exact ⟨by omega, by omega, by omega⟩ | exact ⟨by decide, by decide⟩
        refine ⟨?_, ?_⟩
        · first | omega | exact ⟨by omega, by omega⟩ | decide | assumption | exact ⟨by omega, by omega, by omega⟩ | exact ⟨by decide, by decide⟩
        intro r11
        intro _
        intro X10
        intro rX10
        intro h2
        have sk := fun q => seed_k (Y := Y) (q := q) h2.2
        have e64 : X10 i 64 = drS (drS (X i 64)) := by rw [(sk 0).2.2.2.1, g64]
        have x27 : X10 i 27 = X i 27 := (sk 0).2.2.2.2.trans s27
        have ev := h2.1
        rw [g64] at ev
        have pq : ∀ q, oPl X Y i q → oPl X10 Y i q := fun q g => (sk q).2.1 ((s2 q).2.1 g)
        have kc : ∀ n t, cR X i n t → cR X10 i n t := fun n t g => (sk 0).2.2.1 n t ((s2 0).2.2.1 n t g)
        have xx : rCx X10 i = rCx X i := (drK_x (Y := Y) (Y1 := Y) (sk 0).1).trans (drK_x (Y := Y) (Y1 := Y) (s2 0).1)
        have p10 := pq q pl
        have p102 : oCS (cX X10 i, kX X10 i) (X10 i 27).toNat 900 900 := ⟨oCs_up (by omega) (by omega) p10.2.1, p10.2.2⟩
        have vb := drV_b (s := drS (X i 64)) (n := X i 27 - 1) (by omega)
        rw [← ev] at vb
        refine ⟨?_, ?_⟩
        · first | omega | exact ⟨by omega, by omega⟩ | decide | assumption | exact ⟨by omega, by omega, by omega⟩ | exact ⟨by decide, by decide⟩
        refine ⟨?_, ?_⟩
        · exact ⟨p10.1, p102, by decide, fun hq => absurd hq (by decide), fun _ => ⟨by omega, by omega⟩⟩
        intro r16
        intro X14
        intro rX14
        intro Y15
        intro rY15
        intro h3
        have dq := fun q q0 p => does_pl (w := 2) (v := (1 + r11)) (q := q) q0 p (fun hq => absurd hq (by decide)) h3
        have fk := (dq q q0 (pq _ pl)).1
        refine ⟨((s2 0).1.tr (sk 0).1).tr fk.toD, fun q1 q10 p1 => (dq q1 q10 (pq _ p1)).2.1, fun t ht => ?_⟩
        have dp := (dq q q0 (pq _ pl)).2.2 t (by rw [x27]; exact kc _ _ ht)
        rw [x27, xx] at dp
        rw [fk.2.1 64 (by omega), e64]
        have ed : csDr (rCx X i) (X i 64, t) = (drS (drS (X i 64)), csTry (rCx X i) t 2 (1 + r11)) := by
          show (if drV (X i 64) 10 = 9 then _ else _) = _
          rw [← e3, ev]
          have en : ((xN (rCx X i) : Nat) : Int) = X i 27 := by show (((X i 27).toNat : Nat) : Int) = _; omega
          rw [en, if_neg c1, if_neg (by omega)]
          rw [if_neg (by omega), if_neg (by omega)]
        rw [ed]
        exact ⟨rfl, dp.2⟩
      intro c6
      refine ⟨?_, ?_⟩
      · first | omega | exact ⟨by omega, by omega⟩ | decide | assumption | exact ⟨by omega, by omega, by omega⟩ | exact ⟨by decide, by decide⟩
      refine ⟨?_, ?_⟩
      · first | omega | exact ⟨by omega, by omega⟩ | decide | assumption | exact ⟨by omega, by omega, by omega⟩ | exact ⟨by decide, by decide⟩
      intro r20
      intro _
      intro X19
      intro rX19
      intro h4
      have sk := fun q => seed_k (Y := Y) (q := q) h4.2
      have e64 : X19 i 64 = drS (drS (X i 64)) := by rw [(sk 0).2.2.2.1, g64]
      have x27 : X19 i 27 = X i 27 := (sk 0).2.2.2.2.trans s27
      have ev := h4.1
      rw [g64] at ev
      have pq : ∀ q, oPl X Y i q → oPl X19 Y i q := fun q g => (sk q).2.1 ((s2 q).2.1 g)
      have kc : ∀ n t, cR X i n t → cR X19 i n t := fun n t g => (sk 0).2.2.1 n t ((s2 0).2.2.1 n t g)
      have xx : rCx X19 i = rCx X i := (drK_x (Y := Y) (Y1 := Y) (sk 0).1).trans (drK_x (Y := Y) (Y1 := Y) (s2 0).1)
      have p10 := pq q pl
      have p102 : oCS (cX X19 i, kX X19 i) (X19 i 27).toNat 900 900 := ⟨oCs_up (by omega) (by omega) p10.2.1, p10.2.2⟩
      have vb := drV_b (s := drS (X i 64)) (n := X i 27 - 1) (by omega)
      rw [← ev] at vb
      refine ⟨?_, ?_⟩
      · first | omega | exact ⟨by omega, by omega⟩ | decide | assumption | exact ⟨by omega, by omega, by omega⟩ | exact ⟨by decide, by decide⟩
      refine ⟨?_, ?_⟩
      · exact ⟨p10.1, p102, by decide, fun hq => absurd hq (by decide), fun _ => ⟨by omega, by omega⟩⟩
      intro r25
      intro X23
      intro rX23
      intro Y24
      intro rY24
      intro h5
      have dq := fun q q0 p => does_pl (w := 1) (v := (1 + r20)) (q := q) q0 p (fun hq => absurd hq (by decide)) h5
      have fk := (dq q q0 (pq _ pl)).1
      refine ⟨((s2 0).1.tr (sk 0).1).tr fk.toD, fun q1 q10 p1 => (dq q1 q10 (pq _ p1)).2.1, fun t ht => ?_⟩
      have dp := (dq q q0 (pq _ pl)).2.2 t (by rw [x27]; exact kc _ _ ht)
      rw [x27, xx] at dp
      rw [fk.2.1 64 (by omega), e64]
      have ed : csDr (rCx X i) (X i 64, t) = (drS (drS (X i 64)), csTry (rCx X i) t 1 (1 + r20)) := by
        show (if drV (X i 64) 10 = 9 then _ else _) = _
        rw [← e3, ev]
        have en : ((xN (rCx X i) : Nat) : Int) = X i 27 := by show (((X i 27).toNat : Nat) : Int) = _; omega
        rw [en, if_neg c1, if_neg (by omega)]
        rw [if_neg (by omega), if_pos (by omega)]
      rw [ed]
      exact ⟨rfl, dp.2⟩
    intro c7
    refine ⟨?_, ?_⟩
    · first | omega | exact ⟨by omega, by omega⟩ | decide | assumption | exact ⟨by omega, by omega, by omega⟩ | exact ⟨by decide, by decide⟩
    refine ⟨?_, ?_⟩
    · first | omega | exact ⟨by omega, by omega⟩ | decide | assumption | exact ⟨by omega, by omega, by omega⟩ | exact ⟨by decide, by decide⟩
    intro r29
    intro _
    intro X28
    intro rX28
    intro h6
    have sk := fun q => seed_k (Y := Y) (q := q) h6.2
    have e64 : X28 i 64 = drS (drS (X i 64)) := by rw [(sk 0).2.2.2.1, g64]
    have x27 : X28 i 27 = X i 27 := (sk 0).2.2.2.2.trans s27
    have ev := h6.1
    rw [g64] at ev
    have pq : ∀ q, oPl X Y i q → oPl X28 Y i q := fun q g => (sk q).2.1 ((s2 q).2.1 g)
    have kc : ∀ n t, cR X i n t → cR X28 i n t := fun n t g => (sk 0).2.2.1 n t ((s2 0).2.2.1 n t g)
    have xx : rCx X28 i = rCx X i := (drK_x (Y := Y) (Y1 := Y) (sk 0).1).trans (drK_x (Y := Y) (Y1 := Y) (s2 0).1)
    have p10 := pq q pl
    have p102 : oCS (cX X28 i, kX X28 i) (X28 i 27).toNat 900 900 := ⟨oCs_up (by omega) (by omega) p10.2.1, p10.2.2⟩
    have vb := drV_b (s := drS (X i 64)) (n := X i 27 - 1) (by omega)
    rw [← ev] at vb
    refine ⟨?_, ?_⟩
    · first | omega | exact ⟨by omega, by omega⟩ | decide | assumption | exact ⟨by omega, by omega, by omega⟩ | exact ⟨by decide, by decide⟩
    refine ⟨?_, ?_⟩
    · exact ⟨p10.1, p102, by decide, fun hq => absurd hq (by decide), fun _ => ⟨by omega, by omega⟩⟩
    intro r34
    intro X32
    intro rX32
    intro Y33
    intro rY33
    intro h7
    have dq := fun q q0 p => does_pl (w := 0) (v := (1 + r29)) (q := q) q0 p (fun hq => absurd hq (by decide)) h7
    have fk := (dq q q0 (pq _ pl)).1
    refine ⟨((s2 0).1.tr (sk 0).1).tr fk.toD, fun q1 q10 p1 => (dq q1 q10 (pq _ p1)).2.1, fun t ht => ?_⟩
    have dp := (dq q q0 (pq _ pl)).2.2 t (by rw [x27]; exact kc _ _ ht)
    rw [x27, xx] at dp
    rw [fk.2.1 64 (by omega), e64]
    have ed : csDr (rCx X i) (X i 64, t) = (drS (drS (X i 64)), csTry (rCx X i) t 0 (1 + r29)) := by
      show (if drV (X i 64) 10 = 9 then _ else _) = _
      rw [← e3, ev]
      have en : ((xN (rCx X i) : Nat) : Int) = X i 27 := by show (((X i 27).toNat : Nat) : Int) = _; omega
      rw [en, if_neg c1, if_neg (by omega)]
      rw [if_pos (by omega)]
    rw [ed]
    exact ⟨rfl, dp.2⟩
  intro c8
  refine ⟨?_, ?_⟩
  · first | omega | exact ⟨by omega, by omega⟩ | decide | assumption | exact ⟨by omega, by omega, by omega⟩ | exact ⟨by decide, by decide⟩
  intro r37
  intro _
  intro X36
  intro rX36
  intro h8
  have sk := fun q => seed_k (Y := Y) (q := q) h8.2
  have e64 : X36 i 64 = drS (drS (X i 64)) := by rw [(sk 0).2.2.2.1, g64]
  have x27 : X36 i 27 = X i 27 := (sk 0).2.2.2.2.trans s27
  have ev := h8.1
  rw [g64] at ev
  have pq : ∀ q, oPl X Y i q → oPl X36 Y i q := fun q g => (sk q).2.1 ((s2 q).2.1 g)
  have kc : ∀ n t, cR X i n t → cR X36 i n t := fun n t g => (sk 0).2.2.1 n t ((s2 0).2.2.1 n t g)
  have xx : rCx X36 i = rCx X i := (drK_x (Y := Y) (Y1 := Y) (sk 0).1).trans (drK_x (Y := Y) (Y1 := Y) (s2 0).1)
  have p10 := pq q pl
  have p102 : oCS (cX X36 i, kX X36 i) (X36 i 27).toNat 900 900 := ⟨oCs_up (by omega) (by omega) p10.2.1, p10.2.2⟩
  have vb := drV_b (s := drS (X i 64)) (n := 2) (by decide)
  rw [← ev] at vb
  refine ⟨?_, ?_⟩
  · exact ⟨p10.1, p102, by decide, fun _ => ⟨by omega, by omega⟩, fun hq => absurd rfl hq⟩
  intro r41
  intro X39
  intro rX39
  intro Y40
  intro rY40
  intro h9
  have dq := fun q q0 p => does_pl (w := 3) (v := r37) (q := q) q0 p (fun _ => ⟨by omega, by omega⟩) h9
  have fk := (dq q q0 (pq _ pl)).1
  refine ⟨((s2 0).1.tr (sk 0).1).tr fk.toD, fun q1 q10 p1 => (dq q1 q10 (pq _ p1)).2.1, fun t ht => ?_⟩
  have dp := (dq q q0 (pq _ pl)).2.2 t (by rw [x27]; exact kc _ _ ht)
  rw [x27, xx] at dp
  rw [fk.2.1 64 (by omega), e64]
  have ed : csDr (rCx X i) (X i 64, t) = (drS (drS (X i 64)), csTry (rCx X i) t 3 r37) := by
    show (if drV (X i 64) 10 = 9 then _ else _) = _
    rw [← e3, ev]
    rw [if_pos (Classical.not_not.mp c8)]
  rw [ed]
  exact ⟨rfl, dp.2⟩
theorem c_X11_drawDeed {l : Launch} {D : va_G} {cy : Nat → ClassId} {bs N : Nat} {sa : Nat → Nat} {kd len : Nat → Nat} {X Y : Nat → Int → Int} {R : Nat → Int → Option Nat} {i : Nat} (hM : zM N kd len R i)  (hp : ∃ q : Int, 0 ≤ q ∧ q ≤ 59 ∧ oPl X Y i q) : Met l yX11_drawDeed (.code yX11_drawDeed cX11_drawDeed 2 none :: zTB) (zRm 6 135) (zPc D cy bs sa N kd len X Y R [.ref (bs + (i))]) (zQv D cy bs N kd len (fun st => st.2.2 = R ∧ (drK X (st.1) Y (st.2.1) i ∧ (∀ q, 0 ≤ q → oPl X Y i q → oPl (st.1) (st.2.1) i (q + 1)) ∧ ∀ t, cR X i (X i 27).toNat t → (st.1) i 64 = (csDr (rCx X i) (X i 64, t)).1 ∧ cR (st.1) i (X i 27).toNat (csDr (rCx X i) (X i 64, t)).2))) 0 0 (zA bs) := w_X11_drawDeed hM  (v_X11_drawDeed  hp)
abbrev cX11_drawn : ByteArray := prog_13_method_117_code
def yX11_drawn : MethodName := ⟨RX11, "drawn", "(IIIII)I"⟩
theorem dX11_drawn_0 : decode cX11_drawn 0 = .ok (.aload_n 0, 1) := by decide +kernel
theorem dX11_drawn_1 : decode cX11_drawn 1 = .ok (.iconst 0, 1) := by decide +kernel
theorem dX11_drawn_2 : decode cX11_drawn 2 = .ok (.putfield 88, 3) := by decide +kernel
theorem dX11_drawn_5 : decode cX11_drawn 5 = .ok (.iload 4, 2) := by decide +kernel
theorem dX11_drawn_7 : decode cX11_drawn 7 = .ok (.iconst 0, 1) := by decide +kernel
theorem dX11_drawn_8 : decode cX11_drawn 8 = .ok (.bipush 60, 2) := by decide +kernel
theorem dX11_drawn_10 : decode cX11_drawn 10 = .ok (.invokestatic 100, 3) := by decide +kernel
theorem dX11_drawn_13 : decode cX11_drawn 13 = .ok (.ifCond .eq 12, 3) := by decide +kernel
theorem dX11_drawn_16 : decode cX11_drawn 16 = .ok (.aload_n 0, 1) := by decide +kernel
theorem dX11_drawn_17 : decode cX11_drawn 17 = .ok (.iload_n 1, 1) := by decide +kernel
theorem dX11_drawn_18 : decode cX11_drawn 18 = .ok (.iload_n 2, 1) := by decide +kernel
theorem dX11_drawn_19 : decode cX11_drawn 19 = .ok (.invokevirtual 397, 3) := by decide +kernel
theorem dX11_drawn_22 : decode cX11_drawn 22 = .ok (.ifCond .ne 5, 3) := by decide +kernel
theorem dX11_drawn_25 : decode cX11_drawn 25 = .ok (.iconst (-1), 1) := by decide +kernel
theorem dX11_drawn_26 : decode cX11_drawn 26 = .ok (.ireturn, 1) := by decide +kernel
theorem dX11_drawn_27 : decode cX11_drawn 27 = .ok (.aload_n 0, 1) := by decide +kernel
theorem dX11_drawn_28 : decode cX11_drawn 28 = .ok (.invokevirtual 400, 3) := by decide +kernel
theorem dX11_drawn_31 : decode cX11_drawn 31 = .ok (.aload_n 0, 1) := by decide +kernel
theorem dX11_drawn_32 : decode cX11_drawn 32 = .ok (.iload_n 3, 1) := by decide +kernel
theorem dX11_drawn_33 : decode cX11_drawn 33 = .ok (.putfield 537, 3) := by decide +kernel
theorem dX11_drawn_36 : decode cX11_drawn 36 = .ok (.iconst 0, 1) := by decide +kernel
theorem dX11_drawn_37 : decode cX11_drawn 37 = .ok (.istore 6, 2) := by decide +kernel
theorem dX11_drawn_39 : decode cX11_drawn 39 = .ok (.iload 6, 2) := by decide +kernel
theorem dX11_drawn_41 : decode cX11_drawn 41 = .ok (.iload 4, 2) := by decide +kernel
theorem dX11_drawn_43 : decode cX11_drawn 43 = .ok (.if_icmp .ge 13, 3) := by decide +kernel
theorem dX11_drawn_46 : decode cX11_drawn 46 = .ok (.aload_n 0, 1) := by decide +kernel
theorem dX11_drawn_47 : decode cX11_drawn 47 = .ok (.invokevirtual 544, 3) := by decide +kernel
theorem dX11_drawn_50 : decode cX11_drawn 50 = .ok (.iinc 6 1, 3) := by decide +kernel
theorem dX11_drawn_53 : decode cX11_drawn 53 = .ok (.goto (-14), 3) := by decide +kernel
theorem dX11_drawn_56 : decode cX11_drawn 56 = .ok (.aload_n 0, 1) := by decide +kernel
theorem dX11_drawn_57 : decode cX11_drawn 57 = .ok (.iload 5, 2) := by decide +kernel
theorem dX11_drawn_59 : decode cX11_drawn 59 = .ok (.invokevirtual 415, 3) := by decide +kernel
theorem dX11_drawn_62 : decode cX11_drawn 62 = .ok (.ireturn, 1) := by decide +kernel
theorem q_1939 : Cond.methodLink RX11 544 yX11_drawDeed ∈ zTB := zmem 1939 (by decide +kernel) rfl
theorem q_1941 : Cond.instanceMethod yX11_drawDeed ∈ zTB := zmem 1941 (by decide +kernel) rfl
theorem q_113 : Cond.selects RX11 yX11_drawDeed yX11_drawDeed ∈ zTB := zmem 113 (by decide +kernel) rfl
theorem q_1942 : Cond.code yX11_drawDeed cX11_drawDeed 2 none ∈ zTB := zmem 1942 (by decide +kernel) rfl
theorem k_RX11_544 : zLv RX11 544 RX11 yX11_drawDeed cX11_drawDeed 2 none 0 := ⟨⟨q_1939, q_1941, q_113, q_140, q_1942⟩, rfl, ⟨by decide, by decide⟩, by decide +kernel⟩
def F_X11_drawn (i : Nat) (X Y : Nat → Int → Int) (R : Nat → Int → Option Nat) (a : Int) (b : Int) (g : Int) (d : Int) (f : Int) : Prop := (∀ i j, rI (X i j)) → (∀ i j, rL (Y i j)) → ∀ X1 : Nat → Int → Int, X1 = zU X (i) 0 (0) → (∀ i j, rI (X1 i j)) → ((((mIn (d) ((0 : Int)) ((60 : Int))) = false) → ((-1) = rDrawn X i (a) (b) (g) (d) (f) ∧ pK X (X1) i)) ∧ (((mIn (d) ((0 : Int)) ((60 : Int))) = true) → ((oTN X1 i) ∧ (∀ r6 : Bool, ∀ X4 : Nat → Int → Int, (∀ i j, rI (X4 i j)) → ∀ Y5 : Nat → Int → Int, (∀ i j, rL (Y5 i j)) → (r6 = (mIs i X1 1 (b) && mIs i X1 0 (a)) ∧ hK X1 (X4) Y (Y5) i ∧ (r6 = true → hS9 X1 (X4) i (a) (b) ∧ oH (X4) (Y5) i)) → (((r6 = true) → (∀ X8 : Nat → Int → Int, (∀ i j, rI (X8 i j)) → (X8 = zU (zU (zU (zU (zU (zU (zU (bgW X4 i) i 41 1) i 42 1) i 43 0) i 44 0) i 45 0) i 46 0) i 47 0) → (∀ X9 : Nat → Int → Int, X9 = zU X8 (i) 64 (g) → (∀ i j, rI (X9 i j)) → ((∃ q : Nat, (0 : Int) = q ∧ q ≤ d.toNat ∧ drK X9 X9 Y5 Y5 i ∧ oPl X9 Y5 i q ∧ X9 i 64 = (csDn (rCx X9 i) (g, csI (X9 i 28)) q).1 ∧ cR X9 i (X9 i 27).toNat (csDn (rCx X9 i) (g, csI (X9 i 28)) q).2) ∧ (∀ (k : Int) (X11 : Nat → Int → Int) (Y12 : Nat → Int → Int), rI k → (∀ i j, rI (X11 i j)) → (∀ i j, rL (Y12 i j)) → (∃ q : Nat, k = q ∧ q ≤ d.toNat ∧ drK X9 X11 Y5 Y12 i ∧ oPl X11 Y12 i q ∧ X11 i 64 = (csDn (rCx X9 i) (g, csI (X9 i 28)) q).1 ∧ cR X11 i (X9 i 27).toNat (csDn (rCx X9 i) (g, csI (X9 i 28)) q).2) → (((d ≤ k) → ((oH X11 Y12 i ∧ 0 ≤ X11 i 43 ∧ X11 i 43 < X11 i 27) ∧ (∀ r15 : Int, rI r15 → (∀ t, cR X11 i (X11 i 27).toNat t → oWh (rCx X11 i) t → r15 = csSt (rCx X11 i) (rLd X11 i) (X11 i 26) t (f)) → (r15 = rDrawn X i (a) (b) (g) (d) (f) ∧ pK X (X11) i)))) ∧ ((¬ (d ≤ k)) → ((∃ q : Int, 0 ≤ q ∧ q ≤ 59 ∧ oPl X11 Y12 i q) ∧ (∀ X17 : Nat → Int → Int, (∀ i j, rI (X17 i j)) → ∀ Y18 : Nat → Int → Int, (∀ i j, rL (Y18 i j)) → (drK X11 (X17) Y12 (Y18) i ∧ (∀ q, 0 ≤ q → oPl X11 Y12 i q → oPl (X17) (Y18) i (q + 1)) ∧ ∀ t, cR X11 i (X11 i 27).toNat t → (X17) i 64 = (csDr (rCx X11 i) (X11 i 64, t)).1 ∧ cR (X17) i (X11 i 27).toNat (csDr (rCx X11 i) (X11 i 64, t)).2) → ((rI (k + 1)) ∧ (∃ q : Nat, k + 1 = q ∧ q ≤ d.toNat ∧ drK X9 X17 Y5 Y18 i ∧ oPl X17 Y18 i q ∧ X17 i 64 = (csDn (rCx X9 i) (g, csI (X9 i 28)) q).1 ∧ cR X17 i (X9 i 27).toNat (csDn (rCx X9 i) (g, csI (X9 i 28)) q).2) ∧ (((d - (k + 1)).toNat) < ((d - (k)).toNat)))))))))))) ∧ ((r6 = false) → ((-1) = rDrawn X i (a) (b) (g) (d) (f) ∧ pK X (X4) i)))))))
set_option maxHeartbeats 4000000 in
set_option maxRecDepth 100000 in
theorem w_X11_drawn {l : Launch} {D : va_G} {cy : Nat → ClassId} {bs N : Nat} {sa : Nat → Nat} {kd len : Nat → Nat} {X Y : Nat → Int → Int} {R : Nat → Int → Option Nat} {i : Nat} (hM : zM N kd len R i) (a : Int) (ha : rI a) (b : Int) (hb : rI b) (g : Int) (hg : rI g) (d : Int) (hd : rI d) (f : Int) (hf : rI f) (hF : F_X11_drawn i X Y R a b g d f) : Met l yX11_drawn (.code yX11_drawn cX11_drawn 7 (some .int) :: zTB) (zRm 7 156) (zPc D cy bs sa N kd len X Y R [.ref (bs + (i)), .int (zI (a)), .int (zI (b)), .int (zI (g)), .int (zI (d)), .int (zI (f))]) (zQi D cy bs N kd len (fun r st => st.2.2 = R ∧ (r = rDrawn X i (a) (b) (g) (d) (f) ∧ pK X (st.1) i))) 0 0 (zA bs) := by
  refine zstart (by decide) (Nat.le_of_ble_eq_true rfl) ?_
  intro p e s m args below meth c ls C hE hH hr hlk hnm hl hargs
  have hF := hF hH.2.2.1 hH.2.2.2
  have hS : va_S (zA bs) s.heap s.heap [] := va_S.rf
  have hl : lv_has ls 7 [(0, .ref (bs + (i))), (1, .int (zI (a))), (2, .int (zI (b))), (3, .int (zI (g))), (4, .int (zI (d))), (5, .int (zI (f)))] := hl
  refine lv_aload_n C.1 C.2.1 dX11_drawn_0 rfl (lv_at hl 0 rfl) ?_
  refine zd_iconst C dX11_drawn_1 ?_
  refine zp11_0 C hH hS (zM_n0 hM) (zM_k0 hM) q_1287 (by decide) dX11_drawn_2 (fun H locs hH hS => ?_)
  obtain ⟨X1, eX1⟩ : ∃ z, z = zU X (i) 0 (0) := ⟨_, rfl⟩
  rw [← eX1] at hH
  have hF := hF X1 eX1 hH.2.2.1
  refine lv_iload C.1 C.2.1 dX11_drawn_5 (lv_at hl 4 rfl) ?_
  refine zd_iconst C dX11_drawn_7 ?_
  refine zd_bipush C (by decide) dX11_drawn_8 ?_
  refine zgoi (zrunS (As := [.int (zI (d)), .int (zI (0)), .int (zI (60))]) (rest := []) C hE hH hS hl.1 (c_X11_in (l := l)  (d) hd (0) (by decide) (60) (by decide)) k_RX11_100 ⟨Nat.le_of_ble_eq_true rfl, Nat.le_of_ble_eq_true rfl⟩ rfl (Nat.le_of_ble_eq_true rfl) dX11_drawn_10 ⟨Nat.zero_le _, Nat.zero_le _⟩) hS (fun rq Xq Yq Rq H locs hrq hq hH hS => ?_)
  obtain ⟨h91, h92⟩ := hq
  have h93 : Xq = X1 := congrArg (fun z => z.1) h92
  have h94 : Yq = Y := congrArg (fun z => z.2.1) h92
  have h95 : Rq = R := congrArg (fun z => z.2.2) h92
  rw [h93, h94, h95] at hH
  subst h91
  refine zd_ifB_eq C 25 dX11_drawn_13 (by decide) (fun c2 => ?_) (fun c2 => ?_)
  · have hF := hF.1 c2
    refine zd_iconst C dX11_drawn_25 ?_
    exact zd_iret C hr hlk hH hS (by decide) (⟨rfl, hF⟩) dX11_drawn_26
  · have hF := hF.2 c2
    refine lv_aload_n C.1 C.2.1 dX11_drawn_16 rfl (lv_at hl 0 rfl) ?_
    refine lv_iload_n C.1 C.2.1 dX11_drawn_17 rfl (lv_at hl 1 rfl) ?_
    refine lv_iload_n C.1 C.2.1 dX11_drawn_18 rfl (lv_at hl 2 rfl) ?_
    obtain ⟨o3, hF⟩ := hF
    refine zgoi (zrunV (As := [.int (zI (a)), .int (zI (b))]) (rest := []) C hE hH hS hl.1 (c_X11_hand (l := l) hM (a) ha (b) hb o3) k_RX11_397 ⟨Nat.le_of_ble_eq_true rfl, Nat.le_of_ble_eq_true rfl⟩ (zM_n0 hM) (zM_k0 hM) rfl rfl rfl (Nat.le_of_ble_eq_true rfl) dX11_drawn_19 ⟨Nat.zero_le _, Nat.zero_le _⟩) hS (fun rq X4 Y5 Rq H locs hrq hq hH hS => ?_)
    obtain ⟨h9R, hq⟩ := hq
    dsimp only at h9R
    rw [h9R] at hH
    obtain ⟨r6, h91, hq⟩ := hq
    subst h91
    have hF := hF r6 X4 hH.2.2.1 Y5 hH.2.2.2 hq
    refine zd_ifB_ne C 27 dX11_drawn_22 (by decide) (fun c7 => ?_) (fun c7 => ?_)
    · have hF := hF.1 c7
      refine lv_aload_n C.1 C.2.1 dX11_drawn_27 rfl (lv_at hl 0 rfl) ?_
      refine zgov (zrunV (As := []) (rest := []) C hE hH hS hl.1 (c_X11_beginFeed (l := l) hM ) k_RX11_400 ⟨Nat.le_of_ble_eq_true rfl, Nat.le_of_ble_eq_true rfl⟩ (zM_n0 hM) (zM_k0 hM) rfl rfl rfl (Nat.le_of_ble_eq_true rfl) dX11_drawn_28 ⟨Nat.zero_le _, Nat.zero_le _⟩) hS (fun X8 Yq Rq H locs hq hH hS => ?_)
      obtain ⟨h9Y, h9R, hq⟩ := hq
      dsimp only at h9Y h9R
      rw [h9Y, h9R] at hH
      have hF := hF X8 hH.2.2.1 hq
      refine lv_aload_n C.1 C.2.1 dX11_drawn_31 rfl (lv_at hl 0 rfl) ?_
      refine lv_iload_n C.1 C.2.1 dX11_drawn_32 rfl (lv_at hl 3 rfl) ?_
      refine zp11_64 C hH hS (zM_n0 hM) (zM_k0 hM) q_1351 hg dX11_drawn_33 (fun H locs hH hS => ?_)
      obtain ⟨X9, eX9⟩ : ∃ z, z = zU X8 (i) 64 (g) := ⟨_, rfl⟩
      rw [← eX9] at hH
      have hF := hF X9 eX9 hH.2.2.1
      refine zd_iconst C dX11_drawn_36 ?_
      refine lv_istore (lv' := [(6, .int (zI (0))), (0, .ref (bs + (i))), (1, .int (zI (a))), (2, .int (zI (b))), (3, .int (zI (g))), (4, .int (zI (d))), (5, .int (zI (f)))]) C.1 C.2.1 dX11_drawn_37 hl (by decide) rfl (fun ls hl => ?_)
      obtain ⟨hI10, hF⟩ := hF
      have L10 : ∀ (fu : Nat) (k : Int) (X11 : Nat → Int → Int) (Y12 : Nat → Int → Int), rI k → (∃ q : Nat, k = q ∧ q ≤ d.toNat ∧ drK X9 X11 Y5 Y12 i ∧ oPl X11 Y12 i q ∧ X11 i 64 = (csDn (rCx X9 i) (g, csI (X9 i 28)) q).1 ∧ cR X11 i (X9 i 27).toNat (csDn (rCx X9 i) (g, csI (X9 i 28)) q).2) → ((d - (k)).toNat) < fu → ∀ (H : Heap) (locs : List Loc) (ls : Array Slot), zH D cy bs N kd len X11 Y12 R H → va_S (zA bs) s.heap H locs → lv_has ls 7 [(6, .int (zI (k))), (0, .ref (bs + (i))), (1, .int (zI (a))), (2, .int (zI (b))), (3, .int (zI (g))), (4, .int (zI (d))), (5, .int (zI (f)))] → W p l e (zRm 7 156) s m args below meth c H locs 0 0 (MQ below (zQi D cy bs N kd len (fun r st => st.2.2 = R ∧ (r = rDrawn X i (a) (b) (g) (d) (f) ∧ pK X (st.1) i))) args s 0 0 (zA bs)) (F0 m 39 ls []) := by
        intro fu
        induction fu with
        | zero => intro k X11 Y12 _ _ hmu; exact absurd hmu (Nat.not_lt_zero _)
        | succ fu ih10 =>
          intro k X11 Y12 hk hI hmu10 H locs ls hH hS hl
          have hF := hF k X11 Y12 hk hH.2.2.1 hH.2.2.2 hI
          refine lv_iload C.1 C.2.1 dX11_drawn_39 (lv_at hl 0 rfl) ?_
          refine lv_iload C.1 C.2.1 dX11_drawn_41 (lv_at hl 5 rfl) ?_
          refine zd_icmp_ge C hk hd 56 dX11_drawn_43 (by decide) (fun c13 => ?_) (fun c13 => ?_)
          · have hF := hF.1 c13
            refine lv_aload_n C.1 C.2.1 dX11_drawn_56 rfl (lv_at hl 1 rfl) ?_
            refine lv_iload C.1 C.2.1 dX11_drawn_57 (lv_at hl 6 rfl) ?_
            obtain ⟨o14, hF⟩ := hF
            refine zgoi (zrunV (As := [.int (zI (f))]) (rest := []) C hE hH hS hl.1 (c_X11_ofState (l := l) hM (f) hf o14) k_RX11_415 ⟨Nat.le_of_ble_eq_true rfl, Nat.le_of_ble_eq_true rfl⟩ (zM_n0 hM) (zM_k0 hM) rfl rfl rfl (Nat.le_of_ble_eq_true rfl) dX11_drawn_59 ⟨Nat.zero_le _, Nat.zero_le _⟩) hS (fun r15 Xq Yq Rq H locs hrq hq hH hS => ?_)
            obtain ⟨h9X, h9Y, h9R, hq⟩ := hq
            dsimp only at h9X h9Y h9R
            rw [h9X, h9Y, h9R] at hH
            have hr15 := hrq
            have hF := hF r15 hrq hq
            exact zd_iret C hr hlk hH hS hr15 (⟨rfl, hF⟩) dX11_drawn_62
          · have hF := hF.2 c13
            refine lv_aload_n C.1 C.2.1 dX11_drawn_46 rfl (lv_at hl 1 rfl) ?_
            obtain ⟨o16, hF⟩ := hF
            refine zgov (zrunV (As := []) (rest := []) C hE hH hS hl.1 (c_X11_drawDeed (l := l) hM  o16) k_RX11_544 ⟨Nat.le_of_ble_eq_true rfl, Nat.le_of_ble_eq_true rfl⟩ (zM_n0 hM) (zM_k0 hM) rfl rfl rfl (Nat.le_of_ble_eq_true rfl) dX11_drawn_47 ⟨Nat.zero_le _, Nat.zero_le _⟩) hS (fun X17 Y18 Rq H locs hq hH hS => ?_)
            obtain ⟨h9R, hq⟩ := hq
            dsimp only at h9R
            rw [h9R] at hH
            have hF := hF X17 hH.2.2.1 Y18 hH.2.2.2 hq
            refine zd_iinc (k := 0) (lv' := [(6, .int (zI (k + 1))), (0, .ref (bs + (i))), (1, .int (zI (a))), (2, .int (zI (b))), (3, .int (zI (g))), (4, .int (zI (d))), (5, .int (zI (f)))]) C hl rfl dX11_drawn_50 (by decide) rfl (fun ls hl => ?_)
            refine lv_goto (tgt := 39) C.1 C.2.1 dX11_drawn_53 (by decide) ?_
            obtain ⟨o19, hF⟩ := hF
            exact ih10 (k + 1) X17 Y18 o19 hF.1 (Nat.lt_of_lt_of_le hF.2 (Nat.le_of_lt_succ hmu10)) _ _ _ hH hS (lv_sub hl [0, 1, 2, 3, 4, 5, 6] rfl)
      exact L10 (((d - ((0 : Int))).toNat) + 1) ((0 : Int)) X9 Y5 (by decide) hI10 (Nat.lt_succ_self _) _ _ _ hH hS (lv_sub hl [0, 1, 2, 3, 4, 5, 6] rfl)
    · have hF := hF.2 c7
      refine zd_iconst C dX11_drawn_25 ?_
      exact zd_iret C hr hlk hH hS (by decide) (⟨rfl, hF⟩) dX11_drawn_26
theorem v_X11_drawn {X Y : Nat → Int → Int} {R : Nat → Int → Option Nat} {i : Nat} (a : Int) (ha : rI a) (b : Int) (hb : rI b) (g : Int) (hg : rI g) (d : Int) (hd : rI d) (f : Int) (hf : rI f) (hp : oTN X i) : F_X11_drawn i X Y R a b g d f := by
  unfold F_X11_drawn
  intro hX hY
  have hT := hp
  intro X1
  intro eX1
  have o1 : ∀ z, z ≠ i → X1 z = X z := fun z h => by rw [eX1, zU_o h]
  have z1 : X1 i 0 = 0 := by rw [eX1, zU_s]
  intro rX1
  refine ⟨?_, ?_⟩
  · intro c1
    exact ⟨by unfold rDrawn; rw [c1]; rfl, ⟨fun z g1 g2 => o1 z g1, z1⟩⟩
  intro c2
  have m2 := mIn_t.mp c2
  refine ⟨?_, ?_⟩
  · exact oTN_k (o1 _ (by omega)) (o1 _ (by omega)) (o1 _ (by omega)) hT
  intro r6
  intro X4
  intro rX4
  intro Y5
  intro rY5
  intro h1
  obtain ⟨e5, hk, h9⟩ := h1
  rw [em9 (o1 _ (by omega)), em9 (o1 _ (by omega))] at e5
  have p3 : pK X X4 i := ⟨fun z g1 g2 => (hk.1 z g1 (by omega) (by omega)).trans (o1 z g1), (hk.2.1 0 (by omega) (by decide)).trans z1⟩
  refine ⟨?_, ?_⟩
  · intro c3
    obtain ⟨g9, h⟩ := h9 c3
    obtain ⟨-, z, h27, h26, hx, ld, sd, ks, ko⟩ := hd9 o1 z1 hk g9 h
    have hb := h.1.2.2.1
    have hA := h.1.2.1
    have hBs := h.1.2.2.2
    have h28 := h.2.1.1
    intro X8
    intro rX8
    intro h2
    have e8 : X8 = bfW X4 i := h2
    have bp := bfW_pl h
    rw [← e8] at bp
    have f8 : fK X4 X8 Y5 Y5 i := by rw [e8]; exact bfW_f
    intro X9
    intro eX9
    have sk := fun q => seed_k (Y := Y5) (q := q) eX9
    have d9 : drK X4 X9 Y5 Y5 i := f8.toD.tr (sk 0).1
    have x9 : rCx X9 i = rCx X4 i := drK_x d9
    have n28 : X9 i 28 = X4 i 28 := by rw [eX9, zU_n (by omega), e8, bfW_n (by omega)]
    have n827 : X8 i 27 = X4 i 27 := by rw [e8, bfW_n (by omega)]
    have n828 : X8 i 28 = X4 i 28 := by rw [e8, bfW_n (by omega)]
    have n27 : X9 i 27 = X4 i 27 := d9.2.1 _ (by omega)
    rw [n827, n828] at bp
    intro rX9
    refine ⟨?_, ?_⟩
    · refine ⟨0, rfl, Nat.zero_le _, drK.rf, (sk 0).2.1 bp.1, (sk 0).2.2.2.1, ?_⟩
      rw [n27, n28]
      exact (sk 0).2.2.1 _ _ bp.2
    intro k X11 Y12
    intro _
    intro rX11
    intro rY12
    intro h3
    obtain ⟨q, hq, qd, dk, pl, he, hc⟩ := h3
    subst hq
    have dk4 := d9.tr dk
    have s27 : X11 i 27 = X4 i 27 := (dk.2.1 _ (by omega)).trans n27
    have xx : rCx X11 i = rCx X9 i := drK_x dk
    rw [n27] at hc
    refine ⟨?_, ?_⟩
    · intro c4
      refine ⟨?_, ?_⟩
      · have o := pl.2.1.1
        have o : 0 ≤ X11 i 43 ∧ X11 i 43 < (X11 i 27).toNat := o
        exact ⟨pl.1, by omega, by omega⟩
      intro r15
      intro _
      intro h4
      
      have p11 : pK X X11 i := tr9 p3 (fun z g1 g2 => dk4.1 z g1 (by omega)) (dk4.2.1 0 (by omega))
      have n0 : 0 < xN (rCx X4 i) := by
        show 0 < (X4 i 27).toNat
        omega
      have n15 : xN (rCx X4 i) ≤ 15 := by
        show (X4 i 27).toNat ≤ 15
        omega
      have w0 : oWh (rCx X4 i) (csI (X9 i 28)) := oWh_I (x := rCx X4 i) n0 n15 (sdf_0 (X := X4) (i := i))
      have r := h4 (csDn (rCx X9 i) (g, csI (X9 i 28)) q).2 (by rw [s27]; exact hc) (by
        rw [xx, x9]
        exact oWh_dn (x := rCx X4 i) (s := (g, csI (X9 i 28))) n0 n15 w0 q)
      have eL : rLd X11 i = rLd X4 i := by
        unfold rLd
        rw [rS_t (drK_t dk4)]
      refine ⟨?_, p11⟩
      rw [r, xx, x9, eL, dk4.2.1 26 (by omega), h26, n28, rCx_s z, rLd_s z, z.2.1]
      unfold rDrawn rOk
      rw [← e5, c3, c2, show d.toNat = q by omega]
      rfl
    intro c5
    refine ⟨?_, ?_⟩
    · exact ⟨q, by omega, by omega, pl⟩
    intro X17
    intro rX17
    intro Y18
    intro rY18
    intro h5
    obtain ⟨dk5, pl5, cr5⟩ := h5
    refine ⟨?_, ?_⟩
    · first | omega | exact ⟨by omega, by omega⟩ | decide | assumption | exact ⟨by omega, by omega, by omega⟩ | exact ⟨by decide, by decide⟩
    refine ⟨?_, ?_⟩
    · have c5 := cr5 _ (by rw [s27]; exact hc)
      rw [he, xx, s27] at c5
      refine ⟨q + 1, by omega, by omega, dk.tr dk5, ?_, c5.1, ?_⟩
      · have e : ((q + 1 : Nat) : Int) = (q : Int) + 1 := by omega
        rw [e]
        exact pl5 q (by omega) pl
      · rw [n27]
        exact c5.2
    first | omega | exact ⟨by omega, by omega⟩ | decide | assumption | exact ⟨by omega, by omega, by omega⟩ | exact ⟨by decide, by decide⟩
  intro c6
  exact ⟨by unfold rDrawn rOk; rw [← e5, c6, Bool.and_false]; rfl, p3⟩
theorem c_X11_drawn {l : Launch} {D : va_G} {cy : Nat → ClassId} {bs N : Nat} {sa : Nat → Nat} {kd len : Nat → Nat} {X Y : Nat → Int → Int} {R : Nat → Int → Option Nat} {i : Nat} (hM : zM N kd len R i) (a : Int) (ha : rI a) (b : Int) (hb : rI b) (g : Int) (hg : rI g) (d : Int) (hd : rI d) (f : Int) (hf : rI f) (hp : oTN X i) : Met l yX11_drawn (.code yX11_drawn cX11_drawn 7 (some .int) :: zTB) (zRm 7 156) (zPc D cy bs sa N kd len X Y R [.ref (bs + (i)), .int (zI (a)), .int (zI (b)), .int (zI (g)), .int (zI (d)), .int (zI (f))]) (zQi D cy bs N kd len (fun r st => st.2.2 = R ∧ (r = rDrawn X i (a) (b) (g) (d) (f) ∧ pK X (st.1) i))) 0 0 (zA bs) := w_X11_drawn hM a ha b hb g hg d hd f hf (v_X11_drawn a ha b hb g hg d hd f hf hp)
/-! AFTER -/
def bgN (x : Cx) (dw dv : Nat → Int) (dn : Int) (t : Cs) : Nat → Int
  | 0 => -1
  | k + 1 => if (csSq x dw dv dn t k).1 && decide ((k : Int) < dn) then (if bgN x dw dv dn t k = -1 ∧ (csSq x dw dv dn t (k + 1)).2.1 5 ≠ 0 then (k : Int) else bgN x dw dv dn t k) else bgN x dw dv dn t k
theorem csSq_e {x : Cx} {dw dv : Nat → Int} {dn : Int} {t : Cs} {k : Nat} (h : (csSq x dw dv dn t k).1 = false) : ∀ d, csSq x dw dv dn t (k + d) = csSq x dw dv dn t k ∧ bgN x dw dv dn t (k + d) = bgN x dw dv dn t k
  | 0 => ⟨rfl, rfl⟩
  | d + 1 => by
    obtain ⟨h1, h2⟩ := csSq_e h d
    have h3 : (csSq x dw dv dn t (k + d)).1 = false := by rw [h1, h]
    refine ⟨?_, ?_⟩
    · show csSq x dw dv dn t ((k + d) + 1) = _
      rw [csSq_f (Or.inl h3), h1]
      exact Prod.ext h.symm rfl
    · show (if (csSq x dw dv dn t (k + d)).1 && _ then _ else bgN x dw dv dn t (k + d)) = _
      rw [h3, h2]
      rfl
abbrev afT (Z : Nat → Int → Int) (i k : Nat) : Cs := (csSq (rCx Z i) (fW Z i) (fV Z i) (mDn Z i) (csI (Z i 28)) k).2
abbrev afB (Z : Nat → Int → Int) (i k : Nat) : Int := bgN (rCx Z i) (fW Z i) (fV Z i) (mDn Z i) (csI (Z i 28)) k
def afOf (Z : Nat → Int → Int) (i : Nat) (w : Int) : Int := if w = 0 then (afT Z i (mDn Z i).toNat).1 8 else if w = 1 then (afT Z i (mDn Z i).toNat).1 6 else if w = 2 then (afT Z i (mDn Z i).toNat).1 7 else if w = 3 then (afT Z i (mDn Z i).toNat).1 9 else if w = 4 then zAnd (zOr ((afT Z i (mDn Z i).toNat).1 1) ((afT Z i (mDn Z i).toNat).1 2)) (zXor ((afT Z i (mDn Z i).toNat).1 3) (-1)) else afB Z i (mDn Z i).toNat
def rAfter (X : Nat → Int → Int) (i : Nat) (n c f w : Int) : Int := if mIs i X 2 f && (mIs i X 1 c && mIs i X 0 n) && mIn w 0 5 then afOf (hZ X i n c f) i w else -2
theorem afOf_s {Z X : Nat → Int → Int} {i : Nat} (h : sZ Z X i) (h8 : X (i + 8) = Z (i + 8)) (h40 : X i 40 = Z i 40) (w : Int) : afOf X i w = afOf Z i w := by
  have e1 : mDn X i = mDn Z i := by
    unfold mDn
    rw [h8, h40]
  have e2 : fW X i = fW Z i := by
    unfold fW mDd
    rw [h8, h40]
  have e3 : fV X i = fV Z i := by
    unfold fV mDd
    rw [h8, h40]
  unfold afOf afT afB
  rw [e1, e2, e3, rCx_s h, h.2.1]
abbrev cX11_after : ByteArray := prog_13_method_135_code
def yX11_after : MethodName := ⟨RX11, "after", "(IIII)I"⟩
theorem dX11_after_0 : decode cX11_after 0 = .ok (.aload_n 0, 1) := by decide +kernel
theorem dX11_after_1 : decode cX11_after 1 = .ok (.iconst 0, 1) := by decide +kernel
theorem dX11_after_2 : decode cX11_after 2 = .ok (.putfield 88, 3) := by decide +kernel
theorem dX11_after_5 : decode cX11_after 5 = .ok (.aload_n 0, 1) := by decide +kernel
theorem dX11_after_6 : decode cX11_after 6 = .ok (.iload_n 1, 1) := by decide +kernel
theorem dX11_after_7 : decode cX11_after 7 = .ok (.iload_n 2, 1) := by decide +kernel
theorem dX11_after_8 : decode cX11_after 8 = .ok (.iload_n 3, 1) := by decide +kernel
theorem dX11_after_9 : decode cX11_after 9 = .ok (.invokevirtual 403, 3) := by decide +kernel
theorem dX11_after_12 : decode cX11_after 12 = .ok (.ifCond .eq 13, 3) := by decide +kernel
theorem dX11_after_15 : decode cX11_after 15 = .ok (.iload 4, 2) := by decide +kernel
theorem dX11_after_17 : decode cX11_after 17 = .ok (.iconst 0, 1) := by decide +kernel
theorem dX11_after_18 : decode cX11_after 18 = .ok (.iconst 5, 1) := by decide +kernel
theorem dX11_after_19 : decode cX11_after 19 = .ok (.invokestatic 100, 3) := by decide +kernel
theorem dX11_after_22 : decode cX11_after 22 = .ok (.ifCond .ne 6, 3) := by decide +kernel
theorem dX11_after_25 : decode cX11_after 25 = .ok (.bipush (-2), 2) := by decide +kernel
theorem dX11_after_27 : decode cX11_after 27 = .ok (.ireturn, 1) := by decide +kernel
theorem dX11_after_28 : decode cX11_after 28 = .ok (.iconst (-1), 1) := by decide +kernel
theorem dX11_after_29 : decode cX11_after 29 = .ok (.istore 5, 2) := by decide +kernel
theorem dX11_after_31 : decode cX11_after 31 = .ok (.iconst 1, 1) := by decide +kernel
theorem dX11_after_32 : decode cX11_after 32 = .ok (.istore 6, 2) := by decide +kernel
theorem dX11_after_34 : decode cX11_after 34 = .ok (.iconst 0, 1) := by decide +kernel
theorem dX11_after_35 : decode cX11_after 35 = .ok (.istore 7, 2) := by decide +kernel
theorem dX11_after_37 : decode cX11_after 37 = .ok (.iload 6, 2) := by decide +kernel
theorem dX11_after_39 : decode cX11_after 39 = .ok (.ifCond .eq 60, 3) := by decide +kernel
theorem dX11_after_42 : decode cX11_after 42 = .ok (.iload 7, 2) := by decide +kernel
theorem dX11_after_44 : decode cX11_after 44 = .ok (.aload_n 0, 1) := by decide +kernel
theorem dX11_after_45 : decode cX11_after 45 = .ok (.invokevirtual 355, 3) := by decide +kernel
theorem dX11_after_48 : decode cX11_after 48 = .ok (.if_icmp .ge 51, 3) := by decide +kernel
theorem dX11_after_51 : decode cX11_after 51 = .ok (.aload_n 0, 1) := by decide +kernel
theorem dX11_after_52 : decode cX11_after 52 = .ok (.aload_n 0, 1) := by decide +kernel
theorem dX11_after_53 : decode cX11_after 53 = .ok (.iload 7, 2) := by decide +kernel
theorem dX11_after_55 : decode cX11_after 55 = .ok (.iconst 0, 1) := by decide +kernel
theorem dX11_after_56 : decode cX11_after 56 = .ok (.invokevirtual 358, 3) := by decide +kernel
theorem dX11_after_59 : decode cX11_after 59 = .ok (.aload_n 0, 1) := by decide +kernel
theorem dX11_after_60 : decode cX11_after 60 = .ok (.iload 7, 2) := by decide +kernel
theorem dX11_after_62 : decode cX11_after 62 = .ok (.iconst 1, 1) := by decide +kernel
theorem dX11_after_63 : decode cX11_after 63 = .ok (.invokevirtual 358, 3) := by decide +kernel
theorem dX11_after_66 : decode cX11_after 66 = .ok (.invokevirtual 394, 3) := by decide +kernel
theorem dX11_after_69 : decode cX11_after 69 = .ok (.istore 6, 2) := by decide +kernel
theorem dX11_after_71 : decode cX11_after 71 = .ok (.iload 5, 2) := by decide +kernel
theorem dX11_after_73 : decode cX11_after 73 = .ok (.iconst (-1), 1) := by decide +kernel
theorem dX11_after_74 : decode cX11_after 74 = .ok (.if_icmp .ne 15, 3) := by decide +kernel
theorem dX11_after_77 : decode cX11_after 77 = .ok (.aload_n 0, 1) := by decide +kernel
theorem dX11_after_78 : decode cX11_after 78 = .ok (.getfield 367, 3) := by decide +kernel
theorem dX11_after_81 : decode cX11_after 81 = .ok (.ifCond .eq 8, 3) := by decide +kernel
theorem dX11_after_84 : decode cX11_after 84 = .ok (.iload 7, 2) := by decide +kernel
theorem dX11_after_86 : decode cX11_after 86 = .ok (.goto 5, 3) := by decide +kernel
theorem dX11_after_89 : decode cX11_after 89 = .ok (.iload 5, 2) := by decide +kernel
theorem dX11_after_91 : decode cX11_after 91 = .ok (.istore 5, 2) := by decide +kernel
theorem dX11_after_93 : decode cX11_after 93 = .ok (.iinc 7 1, 3) := by decide +kernel
theorem dX11_after_96 : decode cX11_after 96 = .ok (.goto (-59), 3) := by decide +kernel
theorem dX11_after_99 : decode cX11_after 99 = .ok (.iload 4, 2) := by decide +kernel
theorem dX11_after_101 : decode cX11_after 101 = .ok (.tableswitch 72 0 4 #[35, 40, 45, 50, 55], 35) := by decide +kernel
theorem dX11_after_136 : decode cX11_after 136 = .ok (.aload_n 0, 1) := by decide +kernel
theorem dX11_after_137 : decode cX11_after 137 = .ok (.getfield 376, 3) := by decide +kernel
theorem dX11_after_140 : decode cX11_after 140 = .ok (.ireturn, 1) := by decide +kernel
theorem dX11_after_141 : decode cX11_after 141 = .ok (.aload_n 0, 1) := by decide +kernel
theorem dX11_after_142 : decode cX11_after 142 = .ok (.getfield 370, 3) := by decide +kernel
theorem dX11_after_145 : decode cX11_after 145 = .ok (.ireturn, 1) := by decide +kernel
theorem dX11_after_146 : decode cX11_after 146 = .ok (.aload_n 0, 1) := by decide +kernel
theorem dX11_after_147 : decode cX11_after 147 = .ok (.getfield 373, 3) := by decide +kernel
theorem dX11_after_150 : decode cX11_after 150 = .ok (.ireturn, 1) := by decide +kernel
theorem dX11_after_151 : decode cX11_after 151 = .ok (.aload_n 0, 1) := by decide +kernel
theorem dX11_after_152 : decode cX11_after 152 = .ok (.getfield 379, 3) := by decide +kernel
theorem dX11_after_155 : decode cX11_after 155 = .ok (.ireturn, 1) := by decide +kernel
theorem dX11_after_156 : decode cX11_after 156 = .ok (.aload_n 0, 1) := by decide +kernel
theorem dX11_after_157 : decode cX11_after 157 = .ok (.getfield 361, 3) := by decide +kernel
theorem dX11_after_160 : decode cX11_after 160 = .ok (.aload_n 0, 1) := by decide +kernel
theorem dX11_after_161 : decode cX11_after 161 = .ok (.getfield 364, 3) := by decide +kernel
theorem dX11_after_164 : decode cX11_after 164 = .ok (.ior, 1) := by decide +kernel
theorem dX11_after_165 : decode cX11_after 165 = .ok (.aload_n 0, 1) := by decide +kernel
theorem dX11_after_166 : decode cX11_after 166 = .ok (.getfield 322, 3) := by decide +kernel
theorem dX11_after_169 : decode cX11_after 169 = .ok (.iconst (-1), 1) := by decide +kernel
theorem dX11_after_170 : decode cX11_after 170 = .ok (.ixor, 1) := by decide +kernel
theorem dX11_after_171 : decode cX11_after 171 = .ok (.iand, 1) := by decide +kernel
theorem dX11_after_172 : decode cX11_after 172 = .ok (.ireturn, 1) := by decide +kernel
theorem dX11_after_173 : decode cX11_after 173 = .ok (.iload 5, 2) := by decide +kernel
theorem dX11_after_175 : decode cX11_after 175 = .ok (.ireturn, 1) := by decide +kernel
def F_X11_after (i : Nat) (X Y : Nat → Int → Int) (R : Nat → Int → Option Nat) (a : Int) (b : Int) (g : Int) (d : Int) : Prop := (∀ i j, rI (X i j)) → (∀ i j, rL (Y i j)) → ∀ X1 : Nat → Int → Int, X1 = zU X (i) 0 (0) → (∀ i j, rI (X1 i j)) → ((oTN X1 i) ∧ (∀ r5 : Bool, ∀ X3 : Nat → Int → Int, (∀ i j, rI (X3 i j)) → ∀ Y4 : Nat → Int → Int, (∀ i j, rL (Y4 i j)) → (r5 = (mIs i X1 2 (g) && (mIs i X1 1 (b) && mIs i X1 0 (a))) ∧ lK X1 (X3) Y (Y4) i ∧ (r5 = true → lA X1 (X3) (Y4) i (a) (b) (g))) → (((r5 = false) → ((-2) = rAfter X i (a) (b) (g) (d) ∧ pK X (X3) i)) ∧ ((r5 = true) → ((((mIn (d) ((0 : Int)) ((5 : Int))) = true) → ((∃ q : Nat, (0 : Int) = q ∧ q ≤ (mDn X3 i).toNat ∧ fK X3 X3 Y4 Y4 i ∧ oPl X3 Y4 i q ∧ cR X3 i (X3 i 27).toNat (csSq (rCx X3 i) (fW X3 i) (fV X3 i) (mDn X3 i) (csI (X3 i 28)) q).2 ∧ true = (csSq (rCx X3 i) (fW X3 i) (fV X3 i) (mDn X3 i) (csI (X3 i 28)) q).1 ∧ (-1 : Int) = afB X3 i q) ∧ (∀ (bg : Int) (cn : Bool) (k : Int) (X9 : Nat → Int → Int) (Y10 : Nat → Int → Int), rI bg → rI k → (∀ i j, rI (X9 i j)) → (∀ i j, rL (Y10 i j)) → (∃ q : Nat, k = q ∧ q ≤ (mDn X3 i).toNat ∧ fK X3 X9 Y4 Y10 i ∧ oPl X9 Y10 i q ∧ cR X9 i (X3 i 27).toNat (csSq (rCx X3 i) (fW X3 i) (fV X3 i) (mDn X3 i) (csI (X3 i 28)) q).2 ∧ cn = (csSq (rCx X3 i) (fW X3 i) (fV X3 i) (mDn X3 i) (csI (X3 i 28)) q).1 ∧ bg = afB X3 i q) → (((cn = false ∨ mDn X9 i ≤ k) → ((d = 0 → (X9 (i) 46 = rAfter X i (a) (b) (g) (d) ∧ pK X (X9) i)) ∧ (d = 1 → (X9 (i) 44 = rAfter X i (a) (b) (g) (d) ∧ pK X (X9) i)) ∧ (d = 2 → (X9 (i) 45 = rAfter X i (a) (b) (g) (d) ∧ pK X (X9) i)) ∧ (d = 3 → (X9 (i) 47 = rAfter X i (a) (b) (g) (d) ∧ pK X (X9) i)) ∧ (d = 4 → (zAnd (zOr (X9 (i) 41) (X9 (i) 42)) (zXor (X9 (i) 36) ((-1))) = rAfter X i (a) (b) (g) (d) ∧ pK X (X9) i)) ∧ ((d < 0 ∨ 4 < d) → (bg = rAfter X i (a) (b) (g) (d) ∧ pK X (X9) i)))) ∧ (((cn = false) → (cn = false ∨ mDn X9 i ≤ k)) ∧ ((cn = true) → ((oFd X9 i) ∧ (rI (mDn X9 i) → ((((mDn X9 i) ≤ k) → (cn = false ∨ mDn X9 i ≤ k)) ∧ ((¬ ((mDn X9 i) ≤ k)) → ((oFd X9 i ∧ (0 ≤ k ∧ k ≤ 39) ∧ 0 ≤ (0 : Int) ∧ (0 : Int) ≤ 1) ∧ (rI (mDd X9 i (k) ((0 : Int))) → ((oFd X9 i ∧ (0 ≤ k ∧ k ≤ 39) ∧ 0 ≤ (1 : Int) ∧ (1 : Int) ≤ 1) ∧ (rI (mDd X9 i (k) ((1 : Int))) → ((oH X9 Y10 i ∧ oCS (cX X9 i, kX X9 i) (X9 i 27).toNat 900 900 ∧ (0 ≤ mDd X9 i (k) ((0 : Int)) ∧ mDd X9 i (k) ((0 : Int)) ≤ 3) ∧ (mDd X9 i (k) ((0 : Int)) = 3 → 0 ≤ mDd X9 i (k) ((1 : Int)) ∧ mDd X9 i (k) ((1 : Int)) ≤ 1) ∧ (mDd X9 i (k) ((0 : Int)) ≠ 3 → 1 ≤ mDd X9 i (k) ((1 : Int)) ∧ mDd X9 i (k) ((1 : Int)) ≤ 14)) ∧ (∀ r23 : Bool, ∀ X21 : Nat → Int → Int, (∀ i j, rI (X21 i j)) → ∀ Y22 : Nat → Int → Int, (∀ i j, rL (Y22 i j)) → (r23 = csOk (X9 i 27).toNat (cX X9 i) (mDd X9 i (k) ((0 : Int))) (mDd X9 i (k) ((1 : Int))) ∧ fK X9 (X21) Y10 (Y22) i ∧ (r23 = false → (X21) = X9 ∧ (Y22) = Y10) ∧ (r23 = true → ∀ t, cR X9 i (X9 i 27).toNat t → cR (X21) i (X9 i 27).toNat (csDo (rCx X9 i) t (mDd X9 i (k) ((0 : Int))) (mDd X9 i (k) ((1 : Int)))))) → ((∀ (bg2 : Int), rI bg2 → (bg2 = if bg = -1 ∧ X21 i 43 ≠ 0 then k else bg) → ((rI (k + 1)) ∧ (∃ q : Nat, k + 1 = q ∧ q ≤ (mDn X3 i).toNat ∧ fK X3 X21 Y4 Y22 i ∧ oPl X21 Y22 i q ∧ cR X21 i (X3 i 27).toNat (csSq (rCx X3 i) (fW X3 i) (fV X3 i) (mDn X3 i) (csI (X3 i 28)) q).2 ∧ r23 = (csSq (rCx X3 i) (fW X3 i) (fV X3 i) (mDn X3 i) (csI (X3 i 28)) q).1 ∧ bg2 = afB X3 i q) ∧ (((mDn X3 i - (k + 1)).toNat) < ((mDn X3 i - (k)).toNat)))) ∧ (((¬ bg = (-1)) → (bg = if bg = -1 ∧ X21 i 43 ≠ 0 then k else bg)) ∧ ((¬ (¬ bg = (-1))) → ((((X21 (i) 43) = 0) → (bg = if bg = -1 ∧ X21 i 43 ≠ 0 then k else bg)) ∧ ((¬ ((X21 (i) 43) = 0)) → (k = if bg = -1 ∧ X21 i 43 ≠ 0 then k else bg)))))))))))))))))))))) ∧ (((mIn (d) ((0 : Int)) ((5 : Int))) = false) → ((-2) = rAfter X i (a) (b) (g) (d) ∧ pK X (X3) i)))))))
set_option maxHeartbeats 4000000 in
set_option maxRecDepth 100000 in
theorem w_X11_after {l : Launch} {D : va_G} {cy : Nat → ClassId} {bs N : Nat} {sa : Nat → Nat} {kd len : Nat → Nat} {X Y : Nat → Int → Int} {R : Nat → Int → Option Nat} {i : Nat} (hM : zM N kd len R i) (a : Int) (ha : rI a) (b : Int) (hb : rI b) (g : Int) (hg : rI g) (d : Int) (hd : rI d) (hF : F_X11_after i X Y R a b g d) : Met l yX11_after (.code yX11_after cX11_after 8 (some .int) :: zTB) (zRm 7 163) (zPc D cy bs sa N kd len X Y R [.ref (bs + (i)), .int (zI (a)), .int (zI (b)), .int (zI (g)), .int (zI (d))]) (zQi D cy bs N kd len (fun r st => st.2.2 = R ∧ (r = rAfter X i (a) (b) (g) (d) ∧ pK X (st.1) i))) 0 0 (zA bs) := by
  refine zstart (by decide) (Nat.le_of_ble_eq_true rfl) ?_
  intro p e s m args below meth c ls C hE hH hr hlk hnm hl hargs
  have hF := hF hH.2.2.1 hH.2.2.2
  have hS : va_S (zA bs) s.heap s.heap [] := va_S.rf
  have hl : lv_has ls 8 [(0, .ref (bs + (i))), (1, .int (zI (a))), (2, .int (zI (b))), (3, .int (zI (g))), (4, .int (zI (d)))] := hl
  refine lv_aload_n C.1 C.2.1 dX11_after_0 rfl (lv_at hl 0 rfl) ?_
  refine zd_iconst C dX11_after_1 ?_
  refine zp11_0 C hH hS (zM_n0 hM) (zM_k0 hM) q_1287 (by decide) dX11_after_2 (fun H locs hH hS => ?_)
  obtain ⟨X1, eX1⟩ : ∃ z, z = zU X (i) 0 (0) := ⟨_, rfl⟩
  rw [← eX1] at hH
  have hF := hF X1 eX1 hH.2.2.1
  refine lv_aload_n C.1 C.2.1 dX11_after_5 rfl (lv_at hl 0 rfl) ?_
  refine lv_iload_n C.1 C.2.1 dX11_after_6 rfl (lv_at hl 1 rfl) ?_
  refine lv_iload_n C.1 C.2.1 dX11_after_7 rfl (lv_at hl 2 rfl) ?_
  refine lv_iload_n C.1 C.2.1 dX11_after_8 rfl (lv_at hl 3 rfl) ?_
  obtain ⟨o2, hF⟩ := hF
  refine zgoi (zrunV (As := [.int (zI (a)), .int (zI (b)), .int (zI (g))]) (rest := []) C hE hH hS hl.1 (c_X11_layAll (l := l) hM (a) ha (b) hb (g) hg o2) k_RX11_403 ⟨Nat.le_of_ble_eq_true rfl, Nat.le_of_ble_eq_true rfl⟩ (zM_n0 hM) (zM_k0 hM) rfl rfl rfl (Nat.le_of_ble_eq_true rfl) dX11_after_9 ⟨Nat.zero_le _, Nat.zero_le _⟩) hS (fun rq X3 Y4 Rq H locs hrq hq hH hS => ?_)
  obtain ⟨h9R, hq⟩ := hq
  dsimp only at h9R
  rw [h9R] at hH
  obtain ⟨r5, h91, hq⟩ := hq
  subst h91
  have hF := hF r5 X3 hH.2.2.1 Y4 hH.2.2.2 hq
  refine zd_ifB_eq C 25 dX11_after_12 (by decide) (fun c6 => ?_) (fun c6 => ?_)
  · have hF := hF.1 c6
    refine zd_bipush C (by decide) dX11_after_25 ?_
    exact zd_iret C hr hlk hH hS (by decide) (⟨rfl, hF⟩) dX11_after_27
  · have hF := hF.2 c6
    refine lv_iload C.1 C.2.1 dX11_after_15 (lv_at hl 4 rfl) ?_
    refine zd_iconst C dX11_after_17 ?_
    refine zd_iconst C dX11_after_18 ?_
    refine zgoi (zrunS (As := [.int (zI (d)), .int (zI (0)), .int (zI (5))]) (rest := []) C hE hH hS hl.1 (c_X11_in (l := l)  (d) hd (0) (by decide) (5) (by decide)) k_RX11_100 ⟨Nat.le_of_ble_eq_true rfl, Nat.le_of_ble_eq_true rfl⟩ rfl (Nat.le_of_ble_eq_true rfl) dX11_after_19 ⟨Nat.zero_le _, Nat.zero_le _⟩) hS (fun rq Xq Yq Rq H locs hrq hq hH hS => ?_)
    obtain ⟨h91, h92⟩ := hq
    have h93 : Xq = X3 := congrArg (fun z => z.1) h92
    have h94 : Yq = Y4 := congrArg (fun z => z.2.1) h92
    have h95 : Rq = R := congrArg (fun z => z.2.2) h92
    rw [h93, h94, h95] at hH
    subst h91
    refine zd_ifB_ne C 28 dX11_after_22 (by decide) (fun c7 => ?_) (fun c7 => ?_)
    · have hF := hF.1 c7
      refine zd_iconst C dX11_after_28 ?_
      refine lv_istore (lv' := [(5, .int (zI ((-1)))), (0, .ref (bs + (i))), (1, .int (zI (a))), (2, .int (zI (b))), (3, .int (zI (g))), (4, .int (zI (d)))]) C.1 C.2.1 dX11_after_29 hl (by decide) rfl (fun ls hl => ?_)
      refine zd_iconst C dX11_after_31 ?_
      refine lv_istore (lv' := [(6, .int (zI (1))), (5, .int (zI ((-1)))), (0, .ref (bs + (i))), (1, .int (zI (a))), (2, .int (zI (b))), (3, .int (zI (g))), (4, .int (zI (d)))]) C.1 C.2.1 dX11_after_32 hl (by decide) rfl (fun ls hl => ?_)
      refine zd_iconst C dX11_after_34 ?_
      refine lv_istore (lv' := [(7, .int (zI (0))), (6, .int (zI (1))), (5, .int (zI ((-1)))), (0, .ref (bs + (i))), (1, .int (zI (a))), (2, .int (zI (b))), (3, .int (zI (g))), (4, .int (zI (d)))]) C.1 C.2.1 dX11_after_35 hl (by decide) rfl (fun ls hl => ?_)
      obtain ⟨hI8, hF⟩ := hF
      have L8 : ∀ (fu : Nat) (bg : Int) (cn : Bool) (k : Int) (X9 : Nat → Int → Int) (Y10 : Nat → Int → Int), rI bg → rI k → (∃ q : Nat, k = q ∧ q ≤ (mDn X3 i).toNat ∧ fK X3 X9 Y4 Y10 i ∧ oPl X9 Y10 i q ∧ cR X9 i (X3 i 27).toNat (csSq (rCx X3 i) (fW X3 i) (fV X3 i) (mDn X3 i) (csI (X3 i 28)) q).2 ∧ cn = (csSq (rCx X3 i) (fW X3 i) (fV X3 i) (mDn X3 i) (csI (X3 i 28)) q).1 ∧ bg = afB X3 i q) → ((mDn X3 i - (k)).toNat) < fu → ∀ (H : Heap) (locs : List Loc) (ls : Array Slot), zH D cy bs N kd len X9 Y10 R H → va_S (zA bs) s.heap H locs → lv_has ls 8 [(5, .int (zI (bg))), (6, .int (zI (bz (cn)))), (7, .int (zI (k))), (0, .ref (bs + (i))), (1, .int (zI (a))), (2, .int (zI (b))), (3, .int (zI (g))), (4, .int (zI (d)))] → W p l e (zRm 7 163) s m args below meth c H locs 0 0 (MQ below (zQi D cy bs N kd len (fun r st => st.2.2 = R ∧ (r = rAfter X i (a) (b) (g) (d) ∧ pK X (st.1) i))) args s 0 0 (zA bs)) (F0 m 37 ls []) := by
        intro fu
        induction fu with
        | zero => intro bg cn k X9 Y10 _ _ _ hmu; exact absurd hmu (Nat.not_lt_zero _)
        | succ fu ih8 =>
          intro bg cn k X9 Y10 hbg hk hI hmu8 H locs ls hH hS hl
          have hF := hF bg cn k X9 Y10 hbg hk hH.2.2.1 hH.2.2.2 hI
          have J1 : (cn = false ∨ mDn X9 i ≤ k) → ∀ (H : Heap) (locs : List Loc) (ls : Array Slot), zH D cy bs N kd len X9 Y10 R H → va_S (zA bs) s.heap H locs → lv_has ls 8 [(5, .int (zI (bg))), (0, .ref (bs + (i))), (4, .int (zI (d)))] → W p l e (zRm 7 163) s m args below meth c H locs 0 0 (MQ below (zQi D cy bs N kd len (fun r st => st.2.2 = R ∧ (r = rAfter X i (a) (b) (g) (d) ∧ pK X (st.1) i))) args s 0 0 (zA bs)) (F0 m 99 ls []) := by
            intro   hI H locs ls hH hS hl
            have hF := hF.1    hI
            refine lv_iload C.1 C.2.1 dX11_after_99 (lv_at hl 2 rfl) ?_
            by_cases c11_0 : d = 0
            · have hF := hF.1 c11_0
              refine zd_tabI C hd 136 (0) c11_0 dX11_after_101 (by decide) (by decide) rfl (by decide) ?_
              refine lv_aload_n C.1 C.2.1 dX11_after_136 rfl (lv_at hl 1 rfl) ?_
              refine zg11_46 C hH (zM_n0 hM) (zM_k0 hM) q_1333 dX11_after_137 ?_
              exact zd_iret C hr hlk hH hS (hH.2.2.1 _ _) (⟨rfl, hF⟩) dX11_after_140
            · have hF := hF.2
              by_cases c11_1 : d = 1
              · have hF := hF.1 c11_1
                refine zd_tabI C hd 141 (1) c11_1 dX11_after_101 (by decide) (by decide) rfl (by decide) ?_
                refine lv_aload_n C.1 C.2.1 dX11_after_141 rfl (lv_at hl 1 rfl) ?_
                refine zg11_44 C hH (zM_n0 hM) (zM_k0 hM) q_1331 dX11_after_142 ?_
                exact zd_iret C hr hlk hH hS (hH.2.2.1 _ _) (⟨rfl, hF⟩) dX11_after_145
              · have hF := hF.2
                by_cases c11_2 : d = 2
                · have hF := hF.1 c11_2
                  refine zd_tabI C hd 146 (2) c11_2 dX11_after_101 (by decide) (by decide) rfl (by decide) ?_
                  refine lv_aload_n C.1 C.2.1 dX11_after_146 rfl (lv_at hl 1 rfl) ?_
                  refine zg11_45 C hH (zM_n0 hM) (zM_k0 hM) q_1332 dX11_after_147 ?_
                  exact zd_iret C hr hlk hH hS (hH.2.2.1 _ _) (⟨rfl, hF⟩) dX11_after_150
                · have hF := hF.2
                  by_cases c11_3 : d = 3
                  · have hF := hF.1 c11_3
                    refine zd_tabI C hd 151 (3) c11_3 dX11_after_101 (by decide) (by decide) rfl (by decide) ?_
                    refine lv_aload_n C.1 C.2.1 dX11_after_151 rfl (lv_at hl 1 rfl) ?_
                    refine zg11_47 C hH (zM_n0 hM) (zM_k0 hM) q_1334 dX11_after_152 ?_
                    exact zd_iret C hr hlk hH hS (hH.2.2.1 _ _) (⟨rfl, hF⟩) dX11_after_155
                  · have hF := hF.2
                    by_cases c11_4 : d = 4
                    · have hF := hF.1 c11_4
                      refine zd_tabI C hd 156 (4) c11_4 dX11_after_101 (by decide) (by decide) rfl (by decide) ?_
                      refine lv_aload_n C.1 C.2.1 dX11_after_156 rfl (lv_at hl 1 rfl) ?_
                      refine zg11_41 C hH (zM_n0 hM) (zM_k0 hM) q_1328 dX11_after_157 ?_
                      refine lv_aload_n C.1 C.2.1 dX11_after_160 rfl (lv_at hl 1 rfl) ?_
                      refine zg11_42 C hH (zM_n0 hM) (zM_k0 hM) q_1329 dX11_after_161 ?_
                      refine zd_ior C dX11_after_164 ?_
                      refine lv_aload_n C.1 C.2.1 dX11_after_165 rfl (lv_at hl 1 rfl) ?_
                      refine zg11_36 C hH (zM_n0 hM) (zM_k0 hM) q_1323 dX11_after_166 ?_
                      refine zd_iconst C dX11_after_169 ?_
                      refine zd_ixor C dX11_after_170 ?_
                      refine zd_iand C dX11_after_171 ?_
                      exact zd_iret C hr hlk hH hS (zI_rg _) (⟨rfl, hF⟩) dX11_after_172
                    · have hF := hF.2
                      have c11 := tsw_0_4 (d) c11_0 c11_1 c11_2 c11_3 c11_4
                      have hF := hF c11
                      refine zd_tabO C hd 173 c11 dX11_after_101 (by decide) ?_
                      refine lv_iload C.1 C.2.1 dX11_after_173 (lv_at hl 0 rfl) ?_
                      exact zd_iret C hr hlk hH hS hbg (⟨rfl, hF⟩) dX11_after_175
          have hF := hF.2
          refine lv_iload C.1 C.2.1 dX11_after_37 (lv_at hl 1 rfl) ?_
          refine zd_ifB_eq C 99 dX11_after_39 (by decide) (fun c12 => ?_) (fun c12 => ?_)
          · have hF := hF.1 c12
            exact J1   hF _ _ _ hH hS (lv_sub hl [0, 3, 7] rfl)
          · have hF := hF.2 c12
            refine lv_iload C.1 C.2.1 dX11_after_42 (lv_at hl 2 rfl) ?_
            refine lv_aload_n C.1 C.2.1 dX11_after_44 rfl (lv_at hl 3 rfl) ?_
            obtain ⟨o13, hF⟩ := hF
            refine zgoi (zrunV (As := []) (rest := [.int (zI (k))]) C hE hH hS hl.1 (c_X11_deeds (l := l) hM  o13) k_RX11_355 ⟨Nat.le_of_ble_eq_true rfl, Nat.le_of_ble_eq_true rfl⟩ (zM_n0 hM) (zM_k0 hM) rfl rfl rfl (Nat.le_of_ble_eq_true rfl) dX11_after_45 ⟨Nat.zero_le _, Nat.zero_le _⟩) hS (fun rq Xq Yq Rq H locs hrq hq hH hS => ?_)
            obtain ⟨h91, h92⟩ := hq
            have h93 : Xq = X9 := congrArg (fun z => z.1) h92
            have h94 : Yq = Y10 := congrArg (fun z => z.2.1) h92
            have h95 : Rq = R := congrArg (fun z => z.2.2) h92
            rw [h93, h94, h95] at hH
            subst h91
            have hr14 := hrq
            have hF := hF hr14
            refine zd_icmp_ge C hk hr14 99 dX11_after_48 (by decide) (fun c15 => ?_) (fun c15 => ?_)
            · have hF := hF.1 c15
              exact J1   hF _ _ _ hH hS (lv_sub hl [0, 3, 7] rfl)
            · have hF := hF.2 c15
              refine lv_aload_n C.1 C.2.1 dX11_after_51 rfl (lv_at hl 3 rfl) ?_
              refine lv_aload_n C.1 C.2.1 dX11_after_52 rfl (lv_at hl 3 rfl) ?_
              refine lv_iload C.1 C.2.1 dX11_after_53 (lv_at hl 2 rfl) ?_
              refine zd_iconst C dX11_after_55 ?_
              obtain ⟨o16, hF⟩ := hF
              refine zgoi (zrunV (As := [.int (zI (k)), .int (zI (0))]) (rest := [.ref (bs + (i))]) C hE hH hS hl.1 (c_X11_deedOf (l := l) hM (k) hk (0) (by decide) o16) k_RX11_358 ⟨Nat.le_of_ble_eq_true rfl, Nat.le_of_ble_eq_true rfl⟩ (zM_n0 hM) (zM_k0 hM) rfl rfl rfl (Nat.le_of_ble_eq_true rfl) dX11_after_56 ⟨Nat.zero_le _, Nat.zero_le _⟩) hS (fun rq Xq Yq Rq H locs hrq hq hH hS => ?_)
              obtain ⟨h91, h92⟩ := hq
              have h93 : Xq = X9 := congrArg (fun z => z.1) h92
              have h94 : Yq = Y10 := congrArg (fun z => z.2.1) h92
              have h95 : Rq = R := congrArg (fun z => z.2.2) h92
              rw [h93, h94, h95] at hH
              subst h91
              have hr17 := hrq
              have hF := hF hr17
              refine lv_aload_n C.1 C.2.1 dX11_after_59 rfl (lv_at hl 3 rfl) ?_
              refine lv_iload C.1 C.2.1 dX11_after_60 (lv_at hl 2 rfl) ?_
              refine zd_iconst C dX11_after_62 ?_
              obtain ⟨o18, hF⟩ := hF
              refine zgoi (zrunV (As := [.int (zI (k)), .int (zI (1))]) (rest := [.int (zI (mDd X9 i (k) ((0 : Int)))), .ref (bs + (i))]) C hE hH hS hl.1 (c_X11_deedOf (l := l) hM (k) hk (1) (by decide) o18) k_RX11_358 ⟨Nat.le_of_ble_eq_true rfl, Nat.le_of_ble_eq_true rfl⟩ (zM_n0 hM) (zM_k0 hM) rfl rfl rfl (Nat.le_of_ble_eq_true rfl) dX11_after_63 ⟨Nat.zero_le _, Nat.zero_le _⟩) hS (fun rq Xq Yq Rq H locs hrq hq hH hS => ?_)
              obtain ⟨h91, h92⟩ := hq
              have h93 : Xq = X9 := congrArg (fun z => z.1) h92
              have h94 : Yq = Y10 := congrArg (fun z => z.2.1) h92
              have h95 : Rq = R := congrArg (fun z => z.2.2) h92
              rw [h93, h94, h95] at hH
              subst h91
              have hr19 := hrq
              have hF := hF hr19
              obtain ⟨o20, hF⟩ := hF
              refine zgoi (zrunV (As := [.int (zI (mDd X9 i (k) ((0 : Int)))), .int (zI (mDd X9 i (k) ((1 : Int))))]) (rest := []) C hE hH hS hl.1 (c_X11_does (l := l) hM (mDd X9 i (k) ((0 : Int))) hr17 (mDd X9 i (k) ((1 : Int))) hr19 o20) k_RX11_394 ⟨Nat.le_of_ble_eq_true rfl, Nat.le_of_ble_eq_true rfl⟩ (zM_n0 hM) (zM_k0 hM) rfl rfl rfl (Nat.le_of_ble_eq_true rfl) dX11_after_66 ⟨Nat.zero_le _, Nat.zero_le _⟩) hS (fun rq X21 Y22 Rq H locs hrq hq hH hS => ?_)
              obtain ⟨h9R, hq⟩ := hq
              dsimp only at h9R
              rw [h9R] at hH
              obtain ⟨r23, h91, hq⟩ := hq
              subst h91
              have hF := hF r23 X21 hH.2.2.1 Y22 hH.2.2.2 hq
              refine lv_istore (lv' := [(6, .int (zI (bz (r23)))), (5, .int (zI (bg))), (7, .int (zI (k))), (0, .ref (bs + (i))), (1, .int (zI (a))), (2, .int (zI (b))), (3, .int (zI (g))), (4, .int (zI (d)))]) C.1 C.2.1 dX11_after_69 hl (by decide) rfl (fun ls hl => ?_)
              have J2 : ∀ (bg2 : Int), rI bg2 → (bg2 = if bg = -1 ∧ X21 i 43 ≠ 0 then k else bg) → ∀ (H : Heap) (locs : List Loc) (ls : Array Slot), zH D cy bs N kd len X21 Y22 R H → va_S (zA bs) s.heap H locs → lv_has ls 8 [(5, .int (zI (bg2))), (6, .int (zI (bz (r23)))), (7, .int (zI (k))), (0, .ref (bs + (i))), (1, .int (zI (a))), (2, .int (zI (b))), (3, .int (zI (g))), (4, .int (zI (d)))] → W p l e (zRm 7 163) s m args below meth c H locs 0 0 (MQ below (zQi D cy bs N kd len (fun r st => st.2.2 = R ∧ (r = rAfter X i (a) (b) (g) (d) ∧ pK X (st.1) i))) args s 0 0 (zA bs)) (F0 m 93 ls []) := by
                intro bg2 hbg2 hI H locs ls hH hS hl
                have hF := hF.1 bg2 hbg2  hI
                refine zd_iinc (k := 2) (lv' := [(7, .int (zI (k + 1))), (5, .int (zI (bg2))), (6, .int (zI (bz (r23)))), (0, .ref (bs + (i))), (1, .int (zI (a))), (2, .int (zI (b))), (3, .int (zI (g))), (4, .int (zI (d)))]) C hl rfl dX11_after_93 (by decide) rfl (fun ls hl => ?_)
                refine lv_goto (tgt := 37) C.1 C.2.1 dX11_after_96 (by decide) ?_
                obtain ⟨o24, hF⟩ := hF
                exact ih8 (bg2) (r23) (k + 1) X21 Y22 hbg2 o24 hF.1 (Nat.lt_of_lt_of_le hF.2 (Nat.le_of_lt_succ hmu8)) _ _ _ hH hS (lv_sub hl [1, 2, 0, 3, 4, 5, 6, 7] rfl)
              have hF := hF.2
              refine lv_iload C.1 C.2.1 dX11_after_71 (lv_at hl 1 rfl) ?_
              refine zd_iconst C dX11_after_73 ?_
              refine zd_icmp_ne C hbg (by decide) 89 dX11_after_74 (by decide) (fun c25 => ?_) (fun c25 => ?_)
              · have hF := hF.1 c25
                refine lv_iload C.1 C.2.1 dX11_after_89 (lv_at hl 1 rfl) ?_
                refine lv_istore (lv' := [(5, .int (zI (bg))), (6, .int (zI (bz (r23)))), (7, .int (zI (k))), (0, .ref (bs + (i))), (1, .int (zI (a))), (2, .int (zI (b))), (3, .int (zI (g))), (4, .int (zI (d)))]) C.1 C.2.1 dX11_after_91 hl (by decide) rfl (fun ls hl => ?_)
                exact J2 (bg) hbg hF _ _ _ hH hS (lv_sub hl [0, 1, 2, 3, 4, 5, 6, 7] rfl)
              · have hF := hF.2 c25
                refine lv_aload_n C.1 C.2.1 dX11_after_77 rfl (lv_at hl 3 rfl) ?_
                refine zg11_43 C hH (zM_n0 hM) (zM_k0 hM) q_1330 dX11_after_78 ?_
                refine zd_if_eq C (hH.2.2.1 _ _) 89 dX11_after_81 (by decide) (fun c26 => ?_) (fun c26 => ?_)
                · have hF := hF.1 c26
                  refine lv_iload C.1 C.2.1 dX11_after_89 (lv_at hl 1 rfl) ?_
                  refine lv_istore (lv' := [(5, .int (zI (bg))), (6, .int (zI (bz (r23)))), (7, .int (zI (k))), (0, .ref (bs + (i))), (1, .int (zI (a))), (2, .int (zI (b))), (3, .int (zI (g))), (4, .int (zI (d)))]) C.1 C.2.1 dX11_after_91 hl (by decide) rfl (fun ls hl => ?_)
                  exact J2 (bg) hbg hF _ _ _ hH hS (lv_sub hl [0, 1, 2, 3, 4, 5, 6, 7] rfl)
                · have hF := hF.2 c26
                  refine lv_iload C.1 C.2.1 dX11_after_84 (lv_at hl 2 rfl) ?_
                  refine lv_goto (tgt := 91) C.1 C.2.1 dX11_after_86 (by decide) ?_
                  refine lv_istore (lv' := [(5, .int (zI (k))), (6, .int (zI (bz (r23)))), (7, .int (zI (k))), (0, .ref (bs + (i))), (1, .int (zI (a))), (2, .int (zI (b))), (3, .int (zI (g))), (4, .int (zI (d)))]) C.1 C.2.1 dX11_after_91 hl (by decide) rfl (fun ls hl => ?_)
                  exact J2 (k) hk hF _ _ _ hH hS (lv_sub hl [0, 1, 2, 3, 4, 5, 6, 7] rfl)
      exact L8 (((mDn X3 i - ((0 : Int))).toNat) + 1) ((-1 : Int)) (true) ((0 : Int)) X3 Y4 (by decide) (by decide) hI8 (Nat.lt_succ_self _) _ _ _ hH hS (lv_sub hl [2, 1, 0, 3, 4, 5, 6, 7] rfl)
    · have hF := hF.2 c7
      refine zd_bipush C (by decide) dX11_after_25 ?_
      exact zd_iret C hr hlk hH hS (by decide) (⟨rfl, hF⟩) dX11_after_27
theorem v_X11_after {X Y : Nat → Int → Int} {R : Nat → Int → Option Nat} {i : Nat} (a : Int) (ha : rI a) (b : Int) (hb : rI b) (g : Int) (hg : rI g) (d : Int) (hd : rI d) (hp : oTN X i ∧ oTF X i) : F_X11_after i X Y R a b g d := by
  unfold F_X11_after
  intro hX hY
  obtain ⟨hT, hF⟩ := hp
  intro X1
  intro eX1
  have o1 : ∀ z, z ≠ i → X1 z = X z := fun z h => by rw [eX1, zU_o h]
  have z1 : X1 i 0 = 0 := by rw [eX1, zU_s]
  intro rX1
  refine ⟨?_, ?_⟩
  · exact oTN_k (o1 _ (by omega)) (o1 _ (by omega)) (o1 _ (by omega)) hT
  intro r5
  intro X3
  intro rX3
  intro Y4
  intro rY4
  intro h1
  obtain ⟨e5, lk, h5⟩ := h1
  rw [em9 (o1 _ (by omega)), em9 (o1 _ (by omega)), em9 (o1 _ (by omega))] at e5
  have p3 : pK X X3 i := ⟨fun y h1 h2 => (lk.1 y h1 (by omega) (by omega) (by omega)).trans (o1 y h1), (lk.2.1 0 (by omega)).trans z1⟩
  refine ⟨?_, ?_⟩
  · intro c1
    exact ⟨by unfold rAfter; rw [← e5, c1]; rfl, p3⟩
  intro c2
  have la := h5 c2
  obtain ⟨z, z8, z40⟩ := lA_Z o1 lk la
  have e40 : X3 i 40 = g := la.2.1
  have hg : 0 ≤ g ∧ g < X (i + 5) 2 := by
    rw [c2] at e5
    have e := e5.symm
    simp only [Bool.and_eq_true] at e
    exact mIs_t.mp e.1
  have h52 := hT.1 2 (by decide) (by decide)
  have fr : oFdr X3 i (X3 i 40) := by
    rw [e40]
    refine oTF_k (p3.1 _ (by omega) (by omega)) (p3.1 _ (by omega) (by omega)) hF g hg.1 ?_
    rw [p3.1 _ (by omega) (by omega)]
    exact hg.2
  have fr1 : 0 ≤ mDn X3 i ∧ mDn X3 i ≤ 40 := fr.1
  have pl3 := la.2.2.1
  have ci := la.2.2.2
  have hn := pl3.1.1.2.2.1
  refine ⟨?_, ?_⟩
  · intro c3
    refine ⟨?_, ?_⟩
    · exact ⟨0, rfl, Nat.zero_le _, fK.rf, pl3, ci, rfl, rfl⟩
    intro bg cn k X9 Y10
    intro _
    intro _
    intro rX9
    intro rY10
    intro h2
    obtain ⟨q, hq, qd, fk, pl, hc, hcn, hbg⟩ := h2
    subst hq
    have s27 : X9 i 27 = X3 i 27 := fk.2.1 _ (by omega)
    have s40 : X9 i 40 = X3 i 40 := fk.2.1 _ (by omega)
    have s8 : X9 (i + 8) = X3 (i + 8) := fk.1 _ (by omega) (by omega)
    have eDn : mDn X9 i = mDn X3 i := by
      unfold mDn
      rw [s40, s8]
    have eD : ∀ w, mDd X9 i q w = mDd X3 i q w := fun w => by
      unfold mDd
      rw [s40, s8]
    have fd : oFd X9 i := by
      show 0 ≤ X9 i 40 ∧ X9 i 40 ≤ 1
      rw [s40, e40]
      exact ⟨by omega, by omega⟩
    have p9 : pK X X9 i := tr9 p3 (fun y g1 g2 => fk.1 y g1 (by omega)) (fk.2.1 0 (by omega))
    have up9 : oCS (cX X9 i, kX X9 i) (X9 i 27).toNat 900 900 := ⟨oCs_up (by omega) (by omega) pl.2.1, pl.2.2⟩
    rw [eDn, eD, eD]
    refine ⟨?_, ?_⟩
    · intro h3
      have fin : (csSq (rCx X3 i) (fW X3 i) (fV X3 i) (mDn X3 i) (csI (X3 i 28)) q).2 = afT X3 i (mDn X3 i).toNat ∧ bg = afB X3 i (mDn X3 i).toNat := by
        rcases h3 with h | h
        · rw [h] at hcn
          have e := csSq_e hcn.symm ((mDn X3 i).toNat - q)
          rw [show q + ((mDn X3 i).toNat - q) = (mDn X3 i).toNat by omega] at e
          exact ⟨by rw [← e.1], by rw [hbg]; exact e.2.symm⟩
        · have e : q = (mDn X3 i).toNat := by omega
          rw [← e]
          exact ⟨rfl, hbg⟩
      have u : ∀ y, y = afOf X3 i d → y = rAfter X i a b g d ∧ pK X X9 i := fun y hy => by
        refine ⟨?_, p9⟩
        unfold rAfter
        rw [← e5, c2, c3, hy, afOf_s z z8 z40]
        rfl
      have hv : cX X9 i = (afT X3 i (mDn X3 i).toNat).1 := by rw [hc.1, fin.1]
      refine ⟨?_, ?_⟩
      · intro c4
        refine u _ ?_
        unfold afOf
        rw [if_pos (by omega)]
        exact congrFun hv 8
      refine ⟨?_, ?_⟩
      · intro c5
        refine u _ ?_
        unfold afOf
        rw [if_neg (by omega), if_pos (by omega)]
        exact congrFun hv 6
      refine ⟨?_, ?_⟩
      · intro c6
        refine u _ ?_
        unfold afOf
        rw [if_neg (by omega), if_neg (by omega), if_pos (by omega)]
        exact congrFun hv 7
      refine ⟨?_, ?_⟩
      · intro c7
        refine u _ ?_
        unfold afOf
        rw [if_neg (by omega), if_neg (by omega), if_neg (by omega), if_pos (by omega)]
        exact congrFun hv 9
      refine ⟨?_, ?_⟩
      · intro c8
        refine u _ ?_
        unfold afOf
        rw [if_neg (by omega), if_neg (by omega), if_neg (by omega), if_neg (by omega), if_pos (by omega)]
        have v1 : X9 i 41 = _ := congrFun hv 1
        have v2 : X9 i 42 = _ := congrFun hv 2
        have v3 : X9 i 36 = _ := congrFun hv 3
        rw [v1, v2, v3]
      intro c9
      have := mIn_t.mp c3
      refine u _ ?_
      unfold afOf
      rw [if_neg (by omega), if_neg (by omega), if_neg (by omega), if_neg (by omega), if_neg (by omega)]
      exact fin.2
    refine ⟨?_, ?_⟩
    · intro c10
      exact Or.inl c10
    intro c11
    refine ⟨?_, ?_⟩
    · exact fd
    intro _
    refine ⟨?_, ?_⟩
    · intro c12
      exact Or.inr c12
    intro c13
    obtain ⟨d1, d2, d3⟩ := fr.2 q (by omega) (show (q : Int) < mDn X3 i by omega)
    refine ⟨?_, ?_⟩
    · exact ⟨fd, ⟨by omega, by omega⟩, by decide, by decide⟩
    intro _
    refine ⟨?_, ?_⟩
    · exact ⟨fd, ⟨by omega, by omega⟩, by decide, by decide⟩
    intro _
    refine ⟨?_, ?_⟩
    · exact ⟨pl.1, up9, d1, d2, d3⟩
    intro r23
    intro X21
    intro rX21
    intro Y22
    intro rY22
    intro h4
    have dp := does_pl (q := (q : Int)) (by omega) pl d2 h4
    have cr := dp.2.2 _ (by rw [s27]; exact hc)
    rw [s27, rCx_t fk] at cr
    obtain ⟨er, cr⟩ := cr
    have fk2 := fk.tr dp.1
    have h43 : X21 i 43 = (csTry (rCx X3 i) (csSq (rCx X3 i) (fW X3 i) (fV X3 i) (mDn X3 i) (csI (X3 i 28)) q).2 (mDd X3 i q 0) (mDd X3 i q 1)).1 5 := congrFun cr.1 5
    have sq1 : csSq (rCx X3 i) (fW X3 i) (fV X3 i) (mDn X3 i) (csI (X3 i 28)) (q + 1) = (r23, csTry (rCx X3 i) (csSq (rCx X3 i) (fW X3 i) (fV X3 i) (mDn X3 i) (csI (X3 i 28)) q).2 (mDd X3 i q 0) (mDd X3 i q 1)) := by
      rw [c11] at hcn
      unfold csTry
      have ex : csOk (xN (rCx X3 i)) (csSq (rCx X3 i) (fW X3 i) (fV X3 i) (mDn X3 i) (csI (X3 i 28)) q).2.1 (mDd X3 i q 0) (mDd X3 i q 1) = r23 := er.symm
      rw [ex]
      cases hr : r23 with
      | false =>
        rw [hr] at ex
        rw [csSq_f (Or.inr (Or.inr ex))]
        rfl
      | true =>
        rw [hr] at ex
        rw [csSq_t hcn.symm (by omega) ex]
        rfl
    have bg1 : afB X3 i (q + 1) = if afB X3 i q = -1 ∧ (csSq (rCx X3 i) (fW X3 i) (fV X3 i) (mDn X3 i) (csI (X3 i 28)) (q + 1)).2.1 5 ≠ 0 then (q : Int) else afB X3 i q := by
      show (if (csSq (rCx X3 i) (fW X3 i) (fV X3 i) (mDn X3 i) (csI (X3 i 28)) q).1 && decide ((q : Int) < mDn X3 i) then _ else _) = _
      rw [← hcn, c11, decide_eq_true (by omega)]
      rfl
    refine ⟨?_, ?_⟩
    · intro bg2
      intro _
      intro h5
      refine ⟨?_, ?_⟩
      · first | omega | exact ⟨by omega, by omega⟩ | decide | assumption | exact ⟨by omega, by omega, by omega⟩ | exact ⟨by decide, by decide⟩
      refine ⟨?_, ?_⟩
      · refine ⟨q + 1, by omega, by omega, fk2, ?_, ?_, ?_, ?_⟩
        · have e : ((q + 1 : Nat) : Int) = (q : Int) + 1 := by omega
          rw [e]
          exact dp.2.1
        · rw [sq1]
          exact cr
        · rw [sq1]
        · rw [bg1, sq1, h5, hbg, h43]
      first | omega | exact ⟨by omega, by omega⟩ | decide | assumption | exact ⟨by omega, by omega, by omega⟩ | exact ⟨by decide, by decide⟩
    refine ⟨?_, ?_⟩
    · intro c14
      rw [if_neg (fun h => c14 h.1)]
    intro c15
    refine ⟨?_, ?_⟩
    · intro c16
      rw [if_neg (fun h => h.2 c16)]
    intro c17
    rw [if_pos ⟨Classical.not_not.mp c15, c17⟩]
  intro c18
  exact ⟨by unfold rAfter; rw [c18, Bool.and_false]; rfl, p3⟩
theorem c_X11_after {l : Launch} {D : va_G} {cy : Nat → ClassId} {bs N : Nat} {sa : Nat → Nat} {kd len : Nat → Nat} {X Y : Nat → Int → Int} {R : Nat → Int → Option Nat} {i : Nat} (hM : zM N kd len R i) (a : Int) (ha : rI a) (b : Int) (hb : rI b) (g : Int) (hg : rI g) (d : Int) (hd : rI d) (hp : oTN X i ∧ oTF X i) : Met l yX11_after (.code yX11_after cX11_after 8 (some .int) :: zTB) (zRm 7 163) (zPc D cy bs sa N kd len X Y R [.ref (bs + (i)), .int (zI (a)), .int (zI (b)), .int (zI (g)), .int (zI (d))]) (zQi D cy bs N kd len (fun r st => st.2.2 = R ∧ (r = rAfter X i (a) (b) (g) (d) ∧ pK X (st.1) i))) 0 0 (zA bs) := w_X11_after hM a ha b hb g hg d hd (v_X11_after a ha b hb g hg d hd hp)
