/-! DRAWN -/
def csTry (x : Cx) (t : Cs) (w v : Int) : Cs := if csOk (xN x) t.1 w v then csDo x t w v else t
def csDr (x : Cx) (s : Int × Cs) : Int × Cs :=
  if drV s.1 10 = 9 then (drS (drS s.1), csTry x s.2 3 (drV (drS s.1) 2))
  else if (xN x : Int) ≤ 1 then (drS s.1, s.2)
  else (drS (drS s.1), csTry x s.2 (if drV s.1 10 < 4 then 0 else if drV s.1 10 < 8 then 1 else 2) (1 + drV (drS s.1) ((xN x : Int) - 1)))
def csDn (x : Cx) (s : Int × Cs) : Nat → Int × Cs
  | 0 => s
  | k + 1 => csDr x (csDn x s k)
theorem zUsh_b {a : Int} : 0 ≤ zUsh a 16 ∧ zUsh a 16 < 65536 := by
  unfold zUsh
  have e : ((zI a).toUInt32 >>> ((zI 16).toUInt32 &&& Int32.toUInt32 31)).toInt32.toInt = ((zI a).toUInt32 >>> 16).toInt32.toInt := rfl
  rw [e]
  have h : ((zI a).toUInt32 >>> 16).toNat < 65536 := by
    rw [UInt32.toNat_shiftRight]
    have := (zI a).toUInt32.toNat_lt
    show _ >>> (16 % 32) < 65536
    rw [Nat.shiftRight_eq_div_pow]
    omega
  have e2 : ((zI a).toUInt32 >>> 16).toInt32.toInt = (((zI a).toUInt32 >>> 16).toNat : Int) := by
    rw [UInt32.toInt_toInt32]
    exact Int.bmod_eq_of_le (by omega) (by omega)
  rw [e2]
  omega
theorem drV_b {s n : Int} (h : 1 ≤ n) : 0 ≤ drV s n ∧ drV s n < n := by
  unfold drV
  have := zUsh_b (a := drS s)
  exact ⟨Int.tmod_nonneg _ this.1, Int.tmod_lt_of_pos _ (by omega)⟩
/-- what a deed comes to, done or not -/
theorem does_pl {X X1 Y Y1 : Nat → Int → Int} {i : Nat} {w v q : Int} {r : Bool} (hq : 0 ≤ q) (pl : oPl X Y i q) (hv : w = 3 → 0 ≤ v ∧ v ≤ 1)
    (h : r = csOk (X i 27).toNat (cX X i) w v ∧ fK X X1 Y Y1 i ∧ (r = false → X1 = X ∧ Y1 = Y) ∧ (r = true → ∀ t, cR X i (X i 27).toNat t → cR X1 i (X i 27).toNat (csDo (rCx X i) t w v))) :
    fK X X1 Y Y1 i ∧ oPl X1 Y1 i (q + 1) ∧ ∀ t, cR X i (X i 27).toNat t → r = csOk (X i 27).toNat t.1 w v ∧ cR X1 i (X i 27).toNat (csTry (rCx X i) t w v) := by
  obtain ⟨er, f, hx, hn⟩ := h
  have et : ∀ t, cR X i (X i 27).toNat t → r = csOk (X i 27).toNat t.1 w v := fun t ht => by rw [er, ht.1]
  have h27 := pl.1.1.2.2.1
  cases hr : r with
  | false =>
    obtain ⟨e1, e2⟩ := hx hr
    rw [e1, e2]
    refine ⟨fK.rf, ⟨pl.1, oCs_up (by omega) (by omega) pl.2.1, pl.2.2⟩, fun t ht => ⟨hr ▸ et t ht, ?_⟩⟩
    unfold csTry
    rw [show csOk (xN (rCx X i)) t.1 w v = false from (et t ht).symm.trans hr]
    exact ht
  | true =>
    have own := hn hr (cX X i, kX X i) ⟨rfl, fun _ _ _ => rfl⟩
    have od := oCS_do (x := rCx X i) (w := w) (v := v) (by show 0 < (X i 27).toNat; omega) (by show (X i 27).toNat ≤ 15; omega) pl.2 hv
    have e28 : X1 i 28 = _ := congrFun own.1 0
    have e36 : X1 i 36 = _ := congrFun own.1 3
    have s27 : X1 i 27 = X i 27 := f.2.1 _ (by omega)
    refine ⟨f, ⟨oH_f f (by rw [e28]; exact od.2.2) pl.1, ?_⟩, fun t ht => ⟨hr ▸ et t ht, ?_⟩⟩
    · rw [s27]
      refine ⟨?_, ?_, ?_⟩
      · show oCs (cX X1 i) _ _ _
        rw [own.1]
        exact oCs_up (by omega) (by omega) od.1
      · show mHas (X1 i 36) 0 = true
        rw [e36]
        exact od.2.1
      · show 0 ≤ X1 i 28 ∧ X1 i 28 ≤ 1
        rw [e28]
        exact od.2.2
    · unfold csTry
      rw [show csOk (xN (rCx X i)) t.1 w v = true from (et t ht).symm.trans hr]
      exact hn hr t ht
/-- what stays, but for the seed -/
def drK (X X1 Y Y1 : Nat → Int → Int) (i : Nat) : Prop := (∀ a, a ≠ i → a ≠ i + 17 → X1 a = X a) ∧ (∀ s, (s < 28 ∨ (28 < s ∧ s < 36) ∨ (37 < s ∧ s < 41) ∨ (47 < s ∧ s ≠ 64)) → X1 i s = X i s) ∧ ∀ a, a ≠ i + 18 → Y1 a = Y a
theorem drK.rf {X Y : Nat → Int → Int} {i : Nat} : drK X X Y Y i := ⟨fun _ _ _ => rfl, fun _ _ => rfl, fun _ _ => rfl⟩
theorem drK.tr {X X1 X2 Y Y1 Y2 : Nat → Int → Int} {i : Nat} (h : drK X X1 Y Y1 i) (g : drK X1 X2 Y1 Y2 i) : drK X X2 Y Y2 i :=
  ⟨fun a h1 h2 => (g.1 a h1 h2).trans (h.1 a h1 h2), fun s h1 => (g.2.1 s h1).trans (h.2.1 s h1), fun a h1 => (g.2.2 a h1).trans (h.2.2 a h1)⟩
theorem fK.toD {X X1 Y Y1 : Nat → Int → Int} {i : Nat} (h : fK X X1 Y Y1 i) : drK X X1 Y Y1 i := ⟨h.1, fun s hs => h.2.1 s (by omega), h.2.2⟩
theorem drK_t {X X1 Y Y1 : Nat → Int → Int} {i : Nat} (h : drK X X1 Y Y1 i) : tS X X1 i := ⟨h.1 _ (by omega) (by omega), h.1 _ (by omega) (by omega), h.2.1 _ (by omega), h.2.1 _ (by omega), h.2.1 _ (by omega), h.2.1 _ (by omega), h.2.1 _ (by omega)⟩
theorem drK_x {X X1 Y Y1 : Nat → Int → Int} {i : Nat} (h : drK X X1 Y Y1 i) : rCx X1 i = rCx X i := by
  have t := drK_t h
  unfold rCx
  rw [rP_t t, rW_t t, rG_t t, sdf_t t, t.2.2.2.2.2.1, h.2.1 29 (by omega)]
/-- another seed -/
theorem seed_k {X X1 Y : Nat → Int → Int} {i : Nat} {v q : Int} (e : X1 = zU X i 64 v) : drK X X1 Y Y i ∧ (oPl X Y i q → oPl X1 Y i q) ∧ (∀ n t, cR X i n t → cR X1 i n t) ∧ X1 i 64 = v ∧ X1 i 27 = X i 27 := by
  have o : ∀ a, a ≠ i → X1 a = X a := fun a h => by rw [e, zU_o h]
  have n : ∀ s, s ≠ 64 → X1 i s = X i s := fun s h => by rw [e, zU_n (by omega)]
  have d : drK X X1 Y Y i := ⟨fun a h _ => o a h, fun s hs => n s (by omega), fun _ _ => rfl⟩
  have t := drK_t d
  have ec : cX X1 i = cX X i := cX_N (fun s hs => n s (fun h => by rw [h] at hs; revert hs; decide))
  refine ⟨d, fun h => ⟨?_, ?_⟩, fun m t h => ⟨by rw [ec]; exact h.1, fun j hj hw => by rw [o _ (by omega)]; exact h.2 j hj hw⟩, by rw [e, zU_s], n 27 (by decide)⟩
  · obtain ⟨⟨hg, ha, hb, hbs⟩, hr, hl, h35, hM⟩ := h.1
    refine ⟨⟨oG_t t hg, oA_t t ha, by rw [n 27 (by decide)]; exact hb, by rw [n 27 (by decide)]; exact oBs_t t hbs⟩, by rw [n 28 (by decide), n 29 (by decide)]; exact hr, fun j hj => ?_, ?_, fun j hj M hm => ?_⟩
    · rw [n 27 (by decide)] at hj
      rw [rP_t t, rW_t t, rG_t t, o _ (by omega)]
      exact hl j hj
    · rw [n 35 (by decide), n 27 (by decide), sdf_t t]
      exact h35
    · rw [n 27 (by decide)] at hj
      rw [rS_t t] at hm
      unfold lM
      rw [o _ (by omega)]
      exact hM j hj M hm
  · rw [n 27 (by decide)]
    refine ⟨?_, ?_, ?_⟩
    · show oCs (cX X1 i) _ _ _
      rw [ec]
      exact h.2.1
    · show mHas (X1 i 36) 0 = true
      rw [n 36 (by decide)]
      exact h.2.2.1
    · show 0 ≤ X1 i 28 ∧ X1 i 28 ≤ 1
      rw [n 28 (by decide)]
      exact h.2.2.2
def rDrawn (X : Nat → Int → Int) (i : Nat) (n c s k w : Int) : Int := if mIn k 0 60 && rOk X i n c then csSt (rCx (hZ X i n c 0) i) (rLd (hZ X i n c 0) i) (X (i + 6) (13 * n + 6)) (csDn (rCx (hZ X i n c 0) i) (s, csI (hZ X i n c 0 i 28)) k.toNat).2 w else -1
theorem oWh_dr {x : Cx} {s : Int × Cs} (h0 : 0 < xN x) (hn : xN x ≤ 15) (h : oWh x s.2) : oWh x (csDr x s).2 := by
  have t : ∀ w v, oWh x (csTry x s.2 w v) := fun w v => by
    unfold csTry
    split
    · exact oWh_do h0 hn h
    · exact h
  unfold csDr
  split
  · exact t _ _
  · split
    · exact h
    · exact t _ _
theorem oWh_dn {x : Cx} {s : Int × Cs} (h0 : 0 < xN x) (hn : xN x ≤ 15) (h : oWh x s.2) : ∀ k, oWh x (csDn x s k).2
  | 0 => h
  | k + 1 => oWh_dr h0 hn (oWh_dn h0 hn h k)
abbrev cX11_drawDeed : ByteArray := prog_13_method_116_code
def yX11_drawDeed : MethodName := ⟨RX11, "drawDeed", "()V"⟩
theorem dX11_drawDeed_0 : decode cX11_drawDeed 0 = .ok (.aload_n 0, 1) := by decide +kernel
theorem dX11_drawDeed_1 : decode cX11_drawDeed 1 = .ok (.bipush 10, 2) := by decide +kernel
theorem dX11_drawDeed_3 : decode cX11_drawDeed 3 = .ok (.invokevirtual 541, 3) := by decide +kernel
theorem dX11_drawDeed_6 : decode cX11_drawDeed 6 = .ok (.istore_n 1, 1) := by decide +kernel
theorem dX11_drawDeed_7 : decode cX11_drawDeed 7 = .ok (.iload_n 1, 1) := by decide +kernel
theorem dX11_drawDeed_8 : decode cX11_drawDeed 8 = .ok (.bipush 9, 2) := by decide +kernel
theorem dX11_drawDeed_10 : decode cX11_drawDeed 10 = .ok (.if_icmp .ne 17, 3) := by decide +kernel
theorem dX11_drawDeed_13 : decode cX11_drawDeed 13 = .ok (.aload_n 0, 1) := by decide +kernel
theorem dX11_drawDeed_14 : decode cX11_drawDeed 14 = .ok (.iconst 3, 1) := by decide +kernel
theorem dX11_drawDeed_15 : decode cX11_drawDeed 15 = .ok (.aload_n 0, 1) := by decide +kernel
theorem dX11_drawDeed_16 : decode cX11_drawDeed 16 = .ok (.iconst 2, 1) := by decide +kernel
theorem dX11_drawDeed_17 : decode cX11_drawDeed 17 = .ok (.invokevirtual 541, 3) := by decide +kernel
theorem dX11_drawDeed_20 : decode cX11_drawDeed 20 = .ok (.invokevirtual 394, 3) := by decide +kernel
theorem dX11_drawDeed_23 : decode cX11_drawDeed 23 = .ok (.pop, 1) := by decide +kernel
theorem dX11_drawDeed_24 : decode cX11_drawDeed 24 = .ok (.goto 48, 3) := by decide +kernel
theorem dX11_drawDeed_27 : decode cX11_drawDeed 27 = .ok (.aload_n 0, 1) := by decide +kernel
theorem dX11_drawDeed_28 : decode cX11_drawDeed 28 = .ok (.getfield 255, 3) := by decide +kernel
theorem dX11_drawDeed_31 : decode cX11_drawDeed 31 = .ok (.iconst 1, 1) := by decide +kernel
theorem dX11_drawDeed_32 : decode cX11_drawDeed 32 = .ok (.if_icmp .le 40, 3) := by decide +kernel
theorem dX11_drawDeed_35 : decode cX11_drawDeed 35 = .ok (.aload_n 0, 1) := by decide +kernel
theorem dX11_drawDeed_36 : decode cX11_drawDeed 36 = .ok (.iload_n 1, 1) := by decide +kernel
theorem dX11_drawDeed_37 : decode cX11_drawDeed 37 = .ok (.iconst 4, 1) := by decide +kernel
theorem dX11_drawDeed_38 : decode cX11_drawDeed 38 = .ok (.if_icmp .ge 7, 3) := by decide +kernel
theorem dX11_drawDeed_41 : decode cX11_drawDeed 41 = .ok (.iconst 0, 1) := by decide +kernel
theorem dX11_drawDeed_42 : decode cX11_drawDeed 42 = .ok (.goto 14, 3) := by decide +kernel
theorem dX11_drawDeed_45 : decode cX11_drawDeed 45 = .ok (.iload_n 1, 1) := by decide +kernel
theorem dX11_drawDeed_46 : decode cX11_drawDeed 46 = .ok (.bipush 8, 2) := by decide +kernel
theorem dX11_drawDeed_48 : decode cX11_drawDeed 48 = .ok (.if_icmp .ge 7, 3) := by decide +kernel
theorem dX11_drawDeed_51 : decode cX11_drawDeed 51 = .ok (.iconst 1, 1) := by decide +kernel
theorem dX11_drawDeed_52 : decode cX11_drawDeed 52 = .ok (.goto 4, 3) := by decide +kernel
theorem dX11_drawDeed_55 : decode cX11_drawDeed 55 = .ok (.iconst 2, 1) := by decide +kernel
theorem dX11_drawDeed_56 : decode cX11_drawDeed 56 = .ok (.iconst 1, 1) := by decide +kernel
theorem dX11_drawDeed_57 : decode cX11_drawDeed 57 = .ok (.aload_n 0, 1) := by decide +kernel
theorem dX11_drawDeed_58 : decode cX11_drawDeed 58 = .ok (.aload_n 0, 1) := by decide +kernel
theorem dX11_drawDeed_59 : decode cX11_drawDeed 59 = .ok (.getfield 255, 3) := by decide +kernel
theorem dX11_drawDeed_62 : decode cX11_drawDeed 62 = .ok (.iconst 1, 1) := by decide +kernel
theorem dX11_drawDeed_63 : decode cX11_drawDeed 63 = .ok (.isub, 1) := by decide +kernel
theorem dX11_drawDeed_64 : decode cX11_drawDeed 64 = .ok (.invokevirtual 541, 3) := by decide +kernel
theorem dX11_drawDeed_67 : decode cX11_drawDeed 67 = .ok (.iadd, 1) := by decide +kernel
theorem dX11_drawDeed_68 : decode cX11_drawDeed 68 = .ok (.invokevirtual 394, 3) := by decide +kernel
theorem dX11_drawDeed_71 : decode cX11_drawDeed 71 = .ok (.pop, 1) := by decide +kernel
theorem dX11_drawDeed_72 : decode cX11_drawDeed 72 = .ok (.return_, 1) := by decide +kernel
theorem q_1943 : Cond.methodLink RX11 541 yX11_draw ∈ zTB := zmem 1943 (by decide +kernel) rfl
theorem q_1945 : Cond.instanceMethod yX11_draw ∈ zTB := zmem 1945 (by decide +kernel) rfl
theorem q_114 : Cond.selects RX11 yX11_draw yX11_draw ∈ zTB := zmem 114 (by decide +kernel) rfl
theorem q_1946 : Cond.code yX11_draw cX11_draw 2 (some .int) ∈ zTB := zmem 1946 (by decide +kernel) rfl
theorem k_RX11_541 : zLv RX11 541 RX11 yX11_draw cX11_draw 2 (some .int) 1 := ⟨⟨q_1943, q_1945, q_114, q_140, q_1946⟩, rfl, ⟨by decide, by decide⟩, by decide +kernel⟩
def F_X11_drawDeed (i : Nat) (X Y : Nat → Int → Int) (R : Nat → Int → Option Nat)  : Prop := (∀ i j, rI (X i j)) → (∀ i j, rL (Y i j)) → (1 ≤ (10 : Int)) ∧ (∀ r3 : Int, rI r3 → ∀ X2 : Nat → Int → Int, (∀ i j, rI (X2 i j)) → (r3 = drV (X i 64) ((10 : Int)) ∧ (X2) = zU X i 64 (drS (X i 64))) → (((¬ r3 = 9) → ((((X2 (i) 27) ≤ 1) → (drK X (X2) Y (Y) i ∧ (∀ q, 0 ≤ q → oPl X Y i q → oPl (X2) (Y) i (q + 1)) ∧ ∀ t, cR X i (X i 27).toNat t → (X2) i 64 = (csDr (rCx X i) (X i 64, t)).1 ∧ cR (X2) i (X i 27).toNat (csDr (rCx X i) (X i 64, t)).2)) ∧ ((¬ ((X2 (i) 27) ≤ 1)) → (((4 ≤ r3) → (((8 ≤ r3) → ((rI ((X2 (i) 27) - 1)) ∧ ((1 ≤ (X2 (i) 27) - 1) ∧ (∀ r11 : Int, rI r11 → ∀ X10 : Nat → Int → Int, (∀ i j, rI (X10 i j)) → (r11 = drV (X2 i 64) ((X2 (i) 27) - 1) ∧ (X10) = zU X2 i 64 (drS (X2 i 64))) → ((rI (1 + r11)) ∧ ((oH X10 Y i ∧ oCS (cX X10 i, kX X10 i) (X10 i 27).toNat 900 900 ∧ (0 ≤ (2 : Int) ∧ (2 : Int) ≤ 3) ∧ ((2 : Int) = 3 → 0 ≤ 1 + r11 ∧ 1 + r11 ≤ 1) ∧ ((2 : Int) ≠ 3 → 1 ≤ 1 + r11 ∧ 1 + r11 ≤ 14)) ∧ (∀ r16 : Bool, ∀ X14 : Nat → Int → Int, (∀ i j, rI (X14 i j)) → ∀ Y15 : Nat → Int → Int, (∀ i j, rL (Y15 i j)) → (r16 = csOk (X10 i 27).toNat (cX X10 i) ((2 : Int)) (1 + r11) ∧ fK X10 (X14) Y (Y15) i ∧ (r16 = false → (X14) = X10 ∧ (Y15) = Y) ∧ (r16 = true → ∀ t, cR X10 i (X10 i 27).toNat t → cR (X14) i (X10 i 27).toNat (csDo (rCx X10 i) t ((2 : Int)) (1 + r11)))) → (drK X (X14) Y (Y15) i ∧ (∀ q, 0 ≤ q → oPl X Y i q → oPl (X14) (Y15) i (q + 1)) ∧ ∀ t, cR X i (X i 27).toNat t → (X14) i 64 = (csDr (rCx X i) (X i 64, t)).1 ∧ cR (X14) i (X i 27).toNat (csDr (rCx X i) (X i 64, t)).2)))))))) ∧ ((¬ (8 ≤ r3)) → ((rI ((X2 (i) 27) - 1)) ∧ ((1 ≤ (X2 (i) 27) - 1) ∧ (∀ r20 : Int, rI r20 → ∀ X19 : Nat → Int → Int, (∀ i j, rI (X19 i j)) → (r20 = drV (X2 i 64) ((X2 (i) 27) - 1) ∧ (X19) = zU X2 i 64 (drS (X2 i 64))) → ((rI (1 + r20)) ∧ ((oH X19 Y i ∧ oCS (cX X19 i, kX X19 i) (X19 i 27).toNat 900 900 ∧ (0 ≤ (1 : Int) ∧ (1 : Int) ≤ 3) ∧ ((1 : Int) = 3 → 0 ≤ 1 + r20 ∧ 1 + r20 ≤ 1) ∧ ((1 : Int) ≠ 3 → 1 ≤ 1 + r20 ∧ 1 + r20 ≤ 14)) ∧ (∀ r25 : Bool, ∀ X23 : Nat → Int → Int, (∀ i j, rI (X23 i j)) → ∀ Y24 : Nat → Int → Int, (∀ i j, rL (Y24 i j)) → (r25 = csOk (X19 i 27).toNat (cX X19 i) ((1 : Int)) (1 + r20) ∧ fK X19 (X23) Y (Y24) i ∧ (r25 = false → (X23) = X19 ∧ (Y24) = Y) ∧ (r25 = true → ∀ t, cR X19 i (X19 i 27).toNat t → cR (X23) i (X19 i 27).toNat (csDo (rCx X19 i) t ((1 : Int)) (1 + r20)))) → (drK X (X23) Y (Y24) i ∧ (∀ q, 0 ≤ q → oPl X Y i q → oPl (X23) (Y24) i (q + 1)) ∧ ∀ t, cR X i (X i 27).toNat t → (X23) i 64 = (csDr (rCx X i) (X i 64, t)).1 ∧ cR (X23) i (X i 27).toNat (csDr (rCx X i) (X i 64, t)).2)))))))))) ∧ ((¬ (4 ≤ r3)) → ((rI ((X2 (i) 27) - 1)) ∧ ((1 ≤ (X2 (i) 27) - 1) ∧ (∀ r29 : Int, rI r29 → ∀ X28 : Nat → Int → Int, (∀ i j, rI (X28 i j)) → (r29 = drV (X2 i 64) ((X2 (i) 27) - 1) ∧ (X28) = zU X2 i 64 (drS (X2 i 64))) → ((rI (1 + r29)) ∧ ((oH X28 Y i ∧ oCS (cX X28 i, kX X28 i) (X28 i 27).toNat 900 900 ∧ (0 ≤ (0 : Int) ∧ (0 : Int) ≤ 3) ∧ ((0 : Int) = 3 → 0 ≤ 1 + r29 ∧ 1 + r29 ≤ 1) ∧ ((0 : Int) ≠ 3 → 1 ≤ 1 + r29 ∧ 1 + r29 ≤ 14)) ∧ (∀ r34 : Bool, ∀ X32 : Nat → Int → Int, (∀ i j, rI (X32 i j)) → ∀ Y33 : Nat → Int → Int, (∀ i j, rL (Y33 i j)) → (r34 = csOk (X28 i 27).toNat (cX X28 i) ((0 : Int)) (1 + r29) ∧ fK X28 (X32) Y (Y33) i ∧ (r34 = false → (X32) = X28 ∧ (Y33) = Y) ∧ (r34 = true → ∀ t, cR X28 i (X28 i 27).toNat t → cR (X32) i (X28 i 27).toNat (csDo (rCx X28 i) t ((0 : Int)) (1 + r29)))) → (drK X (X32) Y (Y33) i ∧ (∀ q, 0 ≤ q → oPl X Y i q → oPl (X32) (Y33) i (q + 1)) ∧ ∀ t, cR X i (X i 27).toNat t → (X32) i 64 = (csDr (rCx X i) (X i 64, t)).1 ∧ cR (X32) i (X i 27).toNat (csDr (rCx X i) (X i 64, t)).2)))))))))))) ∧ ((¬ (¬ r3 = 9)) → ((1 ≤ (2 : Int)) ∧ (∀ r37 : Int, rI r37 → ∀ X36 : Nat → Int → Int, (∀ i j, rI (X36 i j)) → (r37 = drV (X2 i 64) ((2 : Int)) ∧ (X36) = zU X2 i 64 (drS (X2 i 64))) → ((oH X36 Y i ∧ oCS (cX X36 i, kX X36 i) (X36 i 27).toNat 900 900 ∧ (0 ≤ (3 : Int) ∧ (3 : Int) ≤ 3) ∧ ((3 : Int) = 3 → 0 ≤ r37 ∧ r37 ≤ 1) ∧ ((3 : Int) ≠ 3 → 1 ≤ r37 ∧ r37 ≤ 14)) ∧ (∀ r41 : Bool, ∀ X39 : Nat → Int → Int, (∀ i j, rI (X39 i j)) → ∀ Y40 : Nat → Int → Int, (∀ i j, rL (Y40 i j)) → (r41 = csOk (X36 i 27).toNat (cX X36 i) ((3 : Int)) (r37) ∧ fK X36 (X39) Y (Y40) i ∧ (r41 = false → (X39) = X36 ∧ (Y40) = Y) ∧ (r41 = true → ∀ t, cR X36 i (X36 i 27).toNat t → cR (X39) i (X36 i 27).toNat (csDo (rCx X36 i) t ((3 : Int)) (r37)))) → (drK X (X39) Y (Y40) i ∧ (∀ q, 0 ≤ q → oPl X Y i q → oPl (X39) (Y40) i (q + 1)) ∧ ∀ t, cR X i (X i 27).toNat t → (X39) i 64 = (csDr (rCx X i) (X i 64, t)).1 ∧ cR (X39) i (X i 27).toNat (csDr (rCx X i) (X i 64, t)).2))))))))
set_option maxHeartbeats 4000000 in
set_option maxRecDepth 100000 in
theorem w_X11_drawDeed {l : Launch} {D : va_G} {cy : Nat → ClassId} {bs N : Nat} {sa : Nat → Nat} {kd len : Nat → Nat} {X Y : Nat → Int → Int} {R : Nat → Int → Option Nat} {i : Nat} (hM : zM N kd len R i)  (hF : F_X11_drawDeed i X Y R ) : Met l yX11_drawDeed (.code yX11_drawDeed cX11_drawDeed 2 none :: zTB) (zRm 6 135) (zPc D cy bs sa N kd len X Y R [.ref (bs + (i))]) (zQv D cy bs N kd len (fun st => st.2.2 = R ∧ (drK X (st.1) Y (st.2.1) i ∧ (∀ q, 0 ≤ q → oPl X Y i q → oPl (st.1) (st.2.1) i (q + 1)) ∧ ∀ t, cR X i (X i 27).toNat t → (st.1) i 64 = (csDr (rCx X i) (X i 64, t)).1 ∧ cR (st.1) i (X i 27).toNat (csDr (rCx X i) (X i 64, t)).2))) 0 0 (zA bs) := by
  refine zstart (by decide) (Nat.le_of_ble_eq_true rfl) ?_
  intro p e s m args below meth c ls C hE hH hr hlk hnm hl hargs
  have hF := hF hH.2.2.1 hH.2.2.2
  have hS : va_S (zA bs) s.heap s.heap [] := va_S.rf
  have hl : lv_has ls 2 [(0, .ref (bs + (i)))] := hl
  refine lv_aload_n C.1 C.2.1 dX11_drawDeed_0 rfl (lv_at hl 0 rfl) ?_
  refine zd_bipush C (by decide) dX11_drawDeed_1 ?_
  obtain ⟨o1, hF⟩ := hF
  refine zgoi (zrunV (As := [.int (zI (10))]) (rest := []) C hE hH hS hl.1 (c_X11_draw (l := l) hM (10) (by decide) o1) k_RX11_541 ⟨Nat.le_of_ble_eq_true rfl, Nat.le_of_ble_eq_true rfl⟩ (zM_n0 hM) (zM_k0 hM) rfl rfl rfl (Nat.le_of_ble_eq_true rfl) dX11_drawDeed_3 ⟨Nat.zero_le _, Nat.zero_le _⟩) hS (fun r3 X2 Yq Rq H locs hrq hq hH hS => ?_)
  obtain ⟨h9Y, h9R, hq⟩ := hq
  dsimp only at h9Y h9R
  rw [h9Y, h9R] at hH
  have hr3 := hrq
  have hF := hF r3 hrq X2 hH.2.2.1 hq
  refine lv_istore_n (lv' := [(1, .int (zI (r3))), (0, .ref (bs + (i)))]) C.1 C.2.1 dX11_drawDeed_6 rfl hl (by decide) rfl (fun ls hl => ?_)
  refine lv_iload_n C.1 C.2.1 dX11_drawDeed_7 rfl (lv_at hl 0 rfl) ?_
  refine zd_bipush C (by decide) dX11_drawDeed_8 ?_
  refine zd_icmp_ne C hr3 (by decide) 27 dX11_drawDeed_10 (by decide) (fun c4 => ?_) (fun c4 => ?_)
  · have hF := hF.1 c4
    refine lv_aload_n C.1 C.2.1 dX11_drawDeed_27 rfl (lv_at hl 1 rfl) ?_
    refine zg11_27 C hH (zM_n0 hM) (zM_k0 hM) q_1314 dX11_drawDeed_28 ?_
    refine zd_iconst C dX11_drawDeed_31 ?_
    refine zd_icmp_le C (hH.2.2.1 _ _) (by decide) 72 dX11_drawDeed_32 (by decide) (fun c5 => ?_) (fun c5 => ?_)
    · have hF := hF.1 c5
      exact zd_vret C hr hlk hH hS (⟨rfl, hF⟩) dX11_drawDeed_72
    · have hF := hF.2 c5
      refine lv_aload_n C.1 C.2.1 dX11_drawDeed_35 rfl (lv_at hl 1 rfl) ?_
      refine lv_iload_n C.1 C.2.1 dX11_drawDeed_36 rfl (lv_at hl 0 rfl) ?_
      refine zd_iconst C dX11_drawDeed_37 ?_
      refine zd_icmp_ge C hr3 (by decide) 45 dX11_drawDeed_38 (by decide) (fun c6 => ?_) (fun c6 => ?_)
      · have hF := hF.1 c6
        refine lv_iload_n C.1 C.2.1 dX11_drawDeed_45 rfl (lv_at hl 0 rfl) ?_
        refine zd_bipush C (by decide) dX11_drawDeed_46 ?_
        refine zd_icmp_ge C hr3 (by decide) 55 dX11_drawDeed_48 (by decide) (fun c7 => ?_) (fun c7 => ?_)
        · have hF := hF.1 c7
          refine zd_iconst C dX11_drawDeed_55 ?_
          refine zd_iconst C dX11_drawDeed_56 ?_
          refine lv_aload_n C.1 C.2.1 dX11_drawDeed_57 rfl (lv_at hl 1 rfl) ?_
          refine lv_aload_n C.1 C.2.1 dX11_drawDeed_58 rfl (lv_at hl 1 rfl) ?_
          refine zg11_27 C hH (zM_n0 hM) (zM_k0 hM) q_1314 dX11_drawDeed_59 ?_
          refine zd_iconst C dX11_drawDeed_62 ?_
          refine zd_isub C dX11_drawDeed_63 ?_
          obtain ⟨o8, hF⟩ := hF
          obtain ⟨o9, hF⟩ := hF
          refine zgoi (zrunV (As := [.int (zI ((X2 (i) 27) - 1))]) (rest := [.int (zI (1)), .int (zI (2)), .ref (bs + (i))]) C hE hH hS hl.1 (c_X11_draw (l := l) hM ((X2 (i) 27) - 1) o8 o9) k_RX11_541 ⟨Nat.le_of_ble_eq_true rfl, Nat.le_of_ble_eq_true rfl⟩ (zM_n0 hM) (zM_k0 hM) rfl rfl rfl (Nat.le_of_ble_eq_true rfl) dX11_drawDeed_64 ⟨Nat.zero_le _, Nat.zero_le _⟩) hS (fun r11 X10 Yq Rq H locs hrq hq hH hS => ?_)
          obtain ⟨h9Y, h9R, hq⟩ := hq
          dsimp only at h9Y h9R
          rw [h9Y, h9R] at hH
          have hr11 := hrq
          have hF := hF r11 hrq X10 hH.2.2.1 hq
          refine zd_iadd C dX11_drawDeed_67 ?_
          obtain ⟨o12, hF⟩ := hF
          obtain ⟨o13, hF⟩ := hF
          refine zgoi (zrunV (As := [.int (zI (2)), .int (zI (1 + r11))]) (rest := []) C hE hH hS hl.1 (c_X11_does (l := l) hM (2) (by decide) (1 + r11) o12 o13) k_RX11_394 ⟨Nat.le_of_ble_eq_true rfl, Nat.le_of_ble_eq_true rfl⟩ (zM_n0 hM) (zM_k0 hM) rfl rfl rfl (Nat.le_of_ble_eq_true rfl) dX11_drawDeed_68 ⟨Nat.zero_le _, Nat.zero_le _⟩) hS (fun rq X14 Y15 Rq H locs hrq hq hH hS => ?_)
          obtain ⟨h9R, hq⟩ := hq
          dsimp only at h9R
          rw [h9R] at hH
          obtain ⟨r16, h91, hq⟩ := hq
          subst h91
          have hF := hF r16 X14 hH.2.2.1 Y15 hH.2.2.2 hq
          refine lv_pop C.1 C.2.1 dX11_drawDeed_71 rfl ?_
          exact zd_vret C hr hlk hH hS (⟨rfl, hF⟩) dX11_drawDeed_72
        · have hF := hF.2 c7
          refine zd_iconst C dX11_drawDeed_51 ?_
          refine lv_goto (tgt := 56) C.1 C.2.1 dX11_drawDeed_52 (by decide) ?_
          refine zd_iconst C dX11_drawDeed_56 ?_
          refine lv_aload_n C.1 C.2.1 dX11_drawDeed_57 rfl (lv_at hl 1 rfl) ?_
          refine lv_aload_n C.1 C.2.1 dX11_drawDeed_58 rfl (lv_at hl 1 rfl) ?_
          refine zg11_27 C hH (zM_n0 hM) (zM_k0 hM) q_1314 dX11_drawDeed_59 ?_
          refine zd_iconst C dX11_drawDeed_62 ?_
          refine zd_isub C dX11_drawDeed_63 ?_
          obtain ⟨o17, hF⟩ := hF
          obtain ⟨o18, hF⟩ := hF
          refine zgoi (zrunV (As := [.int (zI ((X2 (i) 27) - 1))]) (rest := [.int (zI (1)), .int (zI (1)), .ref (bs + (i))]) C hE hH hS hl.1 (c_X11_draw (l := l) hM ((X2 (i) 27) - 1) o17 o18) k_RX11_541 ⟨Nat.le_of_ble_eq_true rfl, Nat.le_of_ble_eq_true rfl⟩ (zM_n0 hM) (zM_k0 hM) rfl rfl rfl (Nat.le_of_ble_eq_true rfl) dX11_drawDeed_64 ⟨Nat.zero_le _, Nat.zero_le _⟩) hS (fun r20 X19 Yq Rq H locs hrq hq hH hS => ?_)
          obtain ⟨h9Y, h9R, hq⟩ := hq
          dsimp only at h9Y h9R
          rw [h9Y, h9R] at hH
          have hr20 := hrq
          have hF := hF r20 hrq X19 hH.2.2.1 hq
          refine zd_iadd C dX11_drawDeed_67 ?_
          obtain ⟨o21, hF⟩ := hF
          obtain ⟨o22, hF⟩ := hF
          refine zgoi (zrunV (As := [.int (zI (1)), .int (zI (1 + r20))]) (rest := []) C hE hH hS hl.1 (c_X11_does (l := l) hM (1) (by decide) (1 + r20) o21 o22) k_RX11_394 ⟨Nat.le_of_ble_eq_true rfl, Nat.le_of_ble_eq_true rfl⟩ (zM_n0 hM) (zM_k0 hM) rfl rfl rfl (Nat.le_of_ble_eq_true rfl) dX11_drawDeed_68 ⟨Nat.zero_le _, Nat.zero_le _⟩) hS (fun rq X23 Y24 Rq H locs hrq hq hH hS => ?_)
          obtain ⟨h9R, hq⟩ := hq
          dsimp only at h9R
          rw [h9R] at hH
          obtain ⟨r25, h91, hq⟩ := hq
          subst h91
          have hF := hF r25 X23 hH.2.2.1 Y24 hH.2.2.2 hq
          refine lv_pop C.1 C.2.1 dX11_drawDeed_71 rfl ?_
          exact zd_vret C hr hlk hH hS (⟨rfl, hF⟩) dX11_drawDeed_72
      · have hF := hF.2 c6
        refine zd_iconst C dX11_drawDeed_41 ?_
        refine lv_goto (tgt := 56) C.1 C.2.1 dX11_drawDeed_42 (by decide) ?_
        refine zd_iconst C dX11_drawDeed_56 ?_
        refine lv_aload_n C.1 C.2.1 dX11_drawDeed_57 rfl (lv_at hl 1 rfl) ?_
        refine lv_aload_n C.1 C.2.1 dX11_drawDeed_58 rfl (lv_at hl 1 rfl) ?_
        refine zg11_27 C hH (zM_n0 hM) (zM_k0 hM) q_1314 dX11_drawDeed_59 ?_
        refine zd_iconst C dX11_drawDeed_62 ?_
        refine zd_isub C dX11_drawDeed_63 ?_
        obtain ⟨o26, hF⟩ := hF
        obtain ⟨o27, hF⟩ := hF
        refine zgoi (zrunV (As := [.int (zI ((X2 (i) 27) - 1))]) (rest := [.int (zI (1)), .int (zI (0)), .ref (bs + (i))]) C hE hH hS hl.1 (c_X11_draw (l := l) hM ((X2 (i) 27) - 1) o26 o27) k_RX11_541 ⟨Nat.le_of_ble_eq_true rfl, Nat.le_of_ble_eq_true rfl⟩ (zM_n0 hM) (zM_k0 hM) rfl rfl rfl (Nat.le_of_ble_eq_true rfl) dX11_drawDeed_64 ⟨Nat.zero_le _, Nat.zero_le _⟩) hS (fun r29 X28 Yq Rq H locs hrq hq hH hS => ?_)
        obtain ⟨h9Y, h9R, hq⟩ := hq
        dsimp only at h9Y h9R
        rw [h9Y, h9R] at hH
        have hr29 := hrq
        have hF := hF r29 hrq X28 hH.2.2.1 hq
        refine zd_iadd C dX11_drawDeed_67 ?_
        obtain ⟨o30, hF⟩ := hF
        obtain ⟨o31, hF⟩ := hF
        refine zgoi (zrunV (As := [.int (zI (0)), .int (zI (1 + r29))]) (rest := []) C hE hH hS hl.1 (c_X11_does (l := l) hM (0) (by decide) (1 + r29) o30 o31) k_RX11_394 ⟨Nat.le_of_ble_eq_true rfl, Nat.le_of_ble_eq_true rfl⟩ (zM_n0 hM) (zM_k0 hM) rfl rfl rfl (Nat.le_of_ble_eq_true rfl) dX11_drawDeed_68 ⟨Nat.zero_le _, Nat.zero_le _⟩) hS (fun rq X32 Y33 Rq H locs hrq hq hH hS => ?_)
        obtain ⟨h9R, hq⟩ := hq
        dsimp only at h9R
        rw [h9R] at hH
        obtain ⟨r34, h91, hq⟩ := hq
        subst h91
        have hF := hF r34 X32 hH.2.2.1 Y33 hH.2.2.2 hq
        refine lv_pop C.1 C.2.1 dX11_drawDeed_71 rfl ?_
        exact zd_vret C hr hlk hH hS (⟨rfl, hF⟩) dX11_drawDeed_72
  · have hF := hF.2 c4
    refine lv_aload_n C.1 C.2.1 dX11_drawDeed_13 rfl (lv_at hl 1 rfl) ?_
    refine zd_iconst C dX11_drawDeed_14 ?_
    refine lv_aload_n C.1 C.2.1 dX11_drawDeed_15 rfl (lv_at hl 1 rfl) ?_
    refine zd_iconst C dX11_drawDeed_16 ?_
    obtain ⟨o35, hF⟩ := hF
    refine zgoi (zrunV (As := [.int (zI (2))]) (rest := [.int (zI (3)), .ref (bs + (i))]) C hE hH hS hl.1 (c_X11_draw (l := l) hM (2) (by decide) o35) k_RX11_541 ⟨Nat.le_of_ble_eq_true rfl, Nat.le_of_ble_eq_true rfl⟩ (zM_n0 hM) (zM_k0 hM) rfl rfl rfl (Nat.le_of_ble_eq_true rfl) dX11_drawDeed_17 ⟨Nat.zero_le _, Nat.zero_le _⟩) hS (fun r37 X36 Yq Rq H locs hrq hq hH hS => ?_)
    obtain ⟨h9Y, h9R, hq⟩ := hq
    dsimp only at h9Y h9R
    rw [h9Y, h9R] at hH
    have hr37 := hrq
    have hF := hF r37 hrq X36 hH.2.2.1 hq
    obtain ⟨o38, hF⟩ := hF
    refine zgoi (zrunV (As := [.int (zI (3)), .int (zI (r37))]) (rest := []) C hE hH hS hl.1 (c_X11_does (l := l) hM (3) (by decide) (r37) hr37 o38) k_RX11_394 ⟨Nat.le_of_ble_eq_true rfl, Nat.le_of_ble_eq_true rfl⟩ (zM_n0 hM) (zM_k0 hM) rfl rfl rfl (Nat.le_of_ble_eq_true rfl) dX11_drawDeed_20 ⟨Nat.zero_le _, Nat.zero_le _⟩) hS (fun rq X39 Y40 Rq H locs hrq hq hH hS => ?_)
    obtain ⟨h9R, hq⟩ := hq
    dsimp only at h9R
    rw [h9R] at hH
    obtain ⟨r41, h91, hq⟩ := hq
    subst h91
    have hF := hF r41 X39 hH.2.2.1 Y40 hH.2.2.2 hq
    refine lv_pop C.1 C.2.1 dX11_drawDeed_23 rfl ?_
    refine lv_goto (tgt := 72) C.1 C.2.1 dX11_drawDeed_24 (by decide) ?_
    exact zd_vret C hr hlk hH hS (⟨rfl, hF⟩) dX11_drawDeed_72
theorem v_X11_drawDeed {X Y : Nat → Int → Int} {R : Nat → Int → Option Nat} {i : Nat}  (hp : ∃ q : Int, 0 ≤ q ∧ q ≤ 59 ∧ oPl X Y i q) : F_X11_drawDeed i X Y R  := by
  unfold F_X11_drawDeed
  intro hX hY
  obtain ⟨q, q0, q59, pl⟩ := hp
  have h27 := pl.1.1.2.2.1
  refine ⟨?_, ?_⟩
  · first | omega | exact ⟨by omega, by omega⟩ | decide | assumption | exact ⟨by omega, by omega, by omega⟩ | exact ⟨by decide, by decide⟩
  intro r3
  intro _
  intro X2
  intro rX2
  intro h1
  obtain ⟨e3, e2⟩ := h1
  have s2 := fun q => seed_k (Y := Y) (q := q) e2
  have g64 : X2 i 64 = drS (X i 64) := (s2 0).2.2.2.1
  have s27 : X2 i 27 = X i 27 := (s2 0).2.2.2.2
  have v3 := drV_b (s := X i 64) (n := 10) (by decide)
  rw [← e3] at v3
  rw [s27]
  refine ⟨?_, ?_⟩
  · intro c1
    refine ⟨?_, ?_⟩
    · intro c2
      sorry
    intro c3
    refine ⟨?_, ?_⟩
    · intro c4
      refine ⟨?_, ?_⟩
      · intro c5
        refine ⟨?_, ?_⟩
        · first | omega | exact ⟨by omega, by omega⟩ | decide | assumption | exact ⟨by omega, by omega, by omega⟩ | exact ⟨by decide, by decide⟩
        refine ⟨?_, ?_⟩
        · first | omega | exact ⟨by omega, by omega⟩ | decide | assumption | exact ⟨by omega, by omega, by omega⟩ | exact ⟨by decide, by decide⟩
        intro r11
        intro _
        intro X10
        intro rX10
        intro h2
        refine ⟨?_, ?_⟩
        · first | omega | exact ⟨by omega, by omega⟩ | decide | assumption | exact ⟨by omega, by omega, by omega⟩ | exact ⟨by decide, by decide⟩
        refine ⟨?_, ?_⟩
        · first | omega | exact ⟨by omega, by omega⟩ | decide | assumption | exact ⟨by omega, by omega, by omega⟩ | exact ⟨by decide, by decide⟩
        intro r16
        intro X14
        intro rX14
        intro Y15
        intro rY15
        intro h3
        sorry
      intro c6
      refine ⟨?_, ?_⟩
      · first | omega | exact ⟨by omega, by omega⟩ | decide | assumption | exact ⟨by omega, by omega, by omega⟩ | exact ⟨by decide, by decide⟩
      refine ⟨?_, ?_⟩
      · first | omega | exact ⟨by omega, by omega⟩ | decide | assumption | exact ⟨by omega, by omega, by omega⟩ | exact ⟨by decide, by decide⟩
      intro r20
      intro _
      intro X19
      intro rX19
      intro h4
      refine ⟨?_, ?_⟩
      · first | omega | exact ⟨by omega, by omega⟩ | decide | assumption | exact ⟨by omega, by omega, by omega⟩ | exact ⟨by decide, by decide⟩
      refine ⟨?_, ?_⟩
      · first | omega | exact ⟨by omega, by omega⟩ | decide | assumption | exact ⟨by omega, by omega, by omega⟩ | exact ⟨by decide, by decide⟩
      intro r25
      intro X23
      intro rX23
      intro Y24
      intro rY24
      intro h5
      sorry
    intro c7
    refine ⟨?_, ?_⟩
    · first | omega | exact ⟨by omega, by omega⟩ | decide | assumption | exact ⟨by omega, by omega, by omega⟩ | exact ⟨by decide, by decide⟩
    refine ⟨?_, ?_⟩
    · first | omega | exact ⟨by omega, by omega⟩ | decide | assumption | exact ⟨by omega, by omega, by omega⟩ | exact ⟨by decide, by decide⟩
    intro r29
    intro _
    intro X28
    intro rX28
    intro h6
    refine ⟨?_, ?_⟩
    · first | omega | exact ⟨by omega, by omega⟩ | decide | assumption | exact ⟨by omega, by omega, by omega⟩ | exact ⟨by decide, by decide⟩
    refine ⟨?_, ?_⟩
    · first | omega | exact ⟨by omega, by omega⟩ | decide | assumption | exact ⟨by omega, by omega, by omega⟩ | exact ⟨by decide, by decide⟩
    intro r34
    intro X32
    intro rX32
    intro Y33
    intro rY33
    intro h7
    sorry
  intro c8
  refine ⟨?_, ?_⟩
  · first | omega | exact ⟨by omega, by omega⟩ | decide | assumption | exact ⟨by omega, by omega, by omega⟩ | exact ⟨by decide, by decide⟩
  intro r37
  intro _
  intro X36
  intro rX36
  intro h8
  refine ⟨?_, ?_⟩
  · first | omega | exact ⟨by omega, by omega⟩ | decide | assumption | exact ⟨by omega, by omega, by omega⟩ | exact ⟨by decide, by decide⟩
  intro r41
  intro X39
  intro rX39
  intro Y40
  intro rY40
  intro h9
  sorry
theorem c_X11_drawDeed {l : Launch} {D : va_G} {cy : Nat → ClassId} {bs N : Nat} {sa : Nat → Nat} {kd len : Nat → Nat} {X Y : Nat → Int → Int} {R : Nat → Int → Option Nat} {i : Nat} (hM : zM N kd len R i)  (hp : ∃ q : Int, 0 ≤ q ∧ q ≤ 59 ∧ oPl X Y i q) : Met l yX11_drawDeed (.code yX11_drawDeed cX11_drawDeed 2 none :: zTB) (zRm 6 135) (zPc D cy bs sa N kd len X Y R [.ref (bs + (i))]) (zQv D cy bs N kd len (fun st => st.2.2 = R ∧ (drK X (st.1) Y (st.2.1) i ∧ (∀ q, 0 ≤ q → oPl X Y i q → oPl (st.1) (st.2.1) i (q + 1)) ∧ ∀ t, cR X i (X i 27).toNat t → (st.1) i 64 = (csDr (rCx X i) (X i 64, t)).1 ∧ cR (st.1) i (X i 27).toNat (csDr (rCx X i) (X i 64, t)).2))) 0 0 (zA bs) := w_X11_drawDeed hM  (v_X11_drawDeed  hp)
