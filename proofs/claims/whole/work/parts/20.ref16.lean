/-! DOING DEEDS -/
theorem cX_28 {X : Nat → Int → Int} {i : Nat} {v : Int} : cX (zU X i 28 v) i = cU (cX X i) 0 v := cX_U 0 (by decide) v
theorem cX_41 {X : Nat → Int → Int} {i : Nat} {v : Int} : cX (zU X i 41 v) i = cU (cX X i) 1 v := cX_U 1 (by decide) v
theorem cX_42 {X : Nat → Int → Int} {i : Nat} {v : Int} : cX (zU X i 42 v) i = cU (cX X i) 2 v := cX_U 2 (by decide) v
theorem cX_36 {X : Nat → Int → Int} {i : Nat} {v : Int} : cX (zU X i 36 v) i = cU (cX X i) 3 v := cX_U 3 (by decide) v
theorem cX_37 {X : Nat → Int → Int} {i : Nat} {v : Int} : cX (zU X i 37 v) i = cU (cX X i) 4 v := cX_U 4 (by decide) v
theorem cX_43 {X : Nat → Int → Int} {i : Nat} {v : Int} : cX (zU X i 43 v) i = cU (cX X i) 5 v := cX_U 5 (by decide) v
theorem cX_44 {X : Nat → Int → Int} {i : Nat} {v : Int} : cX (zU X i 44 v) i = cU (cX X i) 6 v := cX_U 6 (by decide) v
theorem cX_45 {X : Nat → Int → Int} {i : Nat} {v : Int} : cX (zU X i 45 v) i = cU (cX X i) 7 v := cX_U 7 (by decide) v
theorem cX_46 {X : Nat → Int → Int} {i : Nat} {v : Int} : cX (zU X i 46 v) i = cU (cX X i) 8 v := cX_U 8 (by decide) v
theorem cX_47 {X : Nat → Int → Int} {i : Nat} {v : Int} : cX (zU X i 47 v) i = cU (cX X i) 9 v := cX_U 9 (by decide) v
/-- a course: ten numbers, and since when -/
abbrev Cs : Type := (Nat → Int) × (Nat → Int)
/-- the rows hold a course: since when, of those that are whole -/
def cR (X : Nat → Int → Int) (i n : Nat) (t : Cs) : Prop := cX X i = t.1 ∧ ∀ j : Nat, j < n → mHas (t.1 3) j = true → X (i + 17) j = t.2 j
/-- what a course goes by: parents, works, weights, who is sound, how many, the tie -/
abbrev Cx : Type := (Nat → Nat) × (Nat → Int) × (Nat → Int) × (Nat → Bool) × Nat × Int
abbrev xP (x : Cx) : Nat → Nat := x.1
abbrev xW (x : Cx) : Nat → Int := x.2.1
abbrev xG (x : Cx) : Nat → Int := x.2.2.1
abbrev xS (x : Cx) : Nat → Bool := x.2.2.2.1
abbrev xN (x : Cx) : Nat := x.2.2.2.2.1
abbrev xT (x : Cx) : Int := x.2.2.2.2.2
def rCx (X : Nat → Int → Int) (i : Nat) : Cx := (rP X i, rW X i, rG X i, sdf X i, (X i 27).toNat, X i 29)
def csBc (t : Cs) (q : Nat) : Cs := (cU (cU t.1 3 (zOr (t.1 3) (zShl 1 q))) 4 (t.1 4 + 1), fun j => if j = q then t.1 4 else t.2 j)
def csWt (x : Cx) (t : Cs) (q : Nat) : Bool := !mHas (t.1 3) q && (mHas (t.1 1) q && mHas (t.1 2) q && (xS x) q) && mHas (t.1 3) ((xP x) q)
def csMk (x : Cx) (t : Cs) : Nat → Cs
  | 0 => t
  | q + 1 => if q = 0 then csMk x t q else if csWt x (csMk x t q) q then csBc (csMk x t q) q else csMk x t q
def csC (x : Cx) (t : Cs) : Cs := (csCh (xP x) t.1 (csTip (xP x) (xW x) (xG x) (xN x) (xT x) t.1 t.2), t.2)
def csOk (n : Nat) (c : Nat → Int) (w v : Int) : Bool := if w = 3 then decide (c 0 ≠ v) else mIn v 1 (n - 1) && (if w = 2 then !mHas (c 3) v && mHas (zOr (c 1) (c 2)) v else !mHas (if w = 0 then c 1 else c 2) v)
def csDo (x : Cx) (t : Cs) (w v : Int) : Cs :=
  if w = 3 then csC x (cU t.1 0 v, t.2)
  else if w = 2 then (cU (cU t.1 1 (zAnd (t.1 1) (zXor (zShl 1 v) (-1)))) 2 (zAnd (t.1 2) (zXor (zShl 1 v) (-1))), t.2)
  else csC x (csMk x (cU (cU t.1 1 (zOr (t.1 1) (if w = 0 then zShl 1 v else 0))) 2 (zOr (t.1 2) (if w = 1 then zShl 1 v else 0)), t.2) (xN x))
/-- how far it comes, and where it is then -/
def csPl (x : Cx) (dw dv : Nat → Int) : Nat → Nat → Cs → Nat × Cs
  | 0, k, t => (k, t)
  | q + 1, k, t => if csOk (xN x) t.1 (dw k) (dv k) then csPl x dw dv q (k + 1) (csDo x t (dw k) (dv k)) else (k, t)
/-! bounds -/
def oCS (t : Cs) (n : Nat) (b d : Int) : Prop := oCs t.1 n b d ∧ mHas (t.1 3) 0 = true ∧ (0 ≤ t.1 0 ∧ t.1 0 ≤ 1)
theorem mHas_set {a : Int} {k q : Nat} (hk : k < 32) (hq : q < 32) : mHas (zOr a (zShl 1 q)) k = (mHas a k || decide (k = q)) := by
  rw [mHas_zb _ hk, mHas_zb _ hk, zb_or, zb_one hq hk]
theorem csMk_far (x : Cx) (t : Cs) (hn : (xN x) ≤ 15) : ∀ q, q ≤ (xN x) → (∀ s, s ≠ 3 → s ≠ 4 → (csMk x t q).1 s = t.1 s) ∧ (t.1 4 ≤ (csMk x t q).1 4 ∧ (csMk x t q).1 4 ≤ t.1 4 + q) ∧ ∀ k : Nat, k < 32 → mHas (t.1 3) k = true → mHas ((csMk x t q).1 3) k = true
  | 0, _ => ⟨fun _ _ _ => rfl, ⟨Int.le_refl _, by show t.1 4 ≤ t.1 4 + ((0 : Nat) : Int); omega⟩, fun _ _ h => h⟩
  | q + 1, hq => by
    obtain ⟨h1, h2, h3⟩ := csMk_far x t hn q (by omega)
    unfold csMk
    split
    · exact ⟨h1, ⟨by omega, by omega⟩, h3⟩
    · split
      · refine ⟨fun s g3 g4 => ?_, ?_, fun k hk h => ?_⟩
        · show (if s = 4 then _ else if s = 3 then _ else _) = _
          rw [if_neg g4, if_neg g3]
          exact h1 s g3 g4
        · show t.1 4 ≤ (csMk x t q).1 4 + 1 ∧ (csMk x t q).1 4 + 1 ≤ _
          exact ⟨by omega, by omega⟩
        · show mHas (zOr ((csMk x t q).1 3) (zShl 1 q)) k = true
          rw [mHas_set hk (by omega), h3 k hk h]
          rfl
      · exact ⟨h1, ⟨by omega, by omega⟩, h3⟩
theorem csTip_b {P : Nat → Nat} {W G : Nat → Int} {n : Nat} {tie : Int} {c k : Nat → Int} (hn : 0 < n) : csTip P W G n tie c k < n := sTip_b hn
theorem oCS_C {x : Cx} {t : Cs} {b d : Int} (hn : 0 < (xN x)) (h : oCS t (xN x) b d) : oCS (csC x t) (xN x) (b + 15) d := by
  refine ⟨oCs_ch h.1 (csTip_b hn), ?_, ?_⟩
  · exact h.2.1
  · exact h.2.2
theorem oCS_mk {x : Cx} {t : Cs} {b d : Int} (hn : (xN x) ≤ 15) (h : oCS t (xN x) b d) : oCS (csMk x t (xN x)) (xN x) b (d + 15) := by
  obtain ⟨h1, h2, h3⟩ := csMk_far x t hn (xN x) (Nat.le_refl _)
  obtain ⟨⟨g5, g6, g7, g8, g9, g4⟩, g3, g0⟩ := h
  refine ⟨⟨?_, ?_, ?_, ?_, ?_, ?_⟩, h3 0 (by decide) g3, ?_⟩
  · rw [h1 5 (by decide) (by decide)]; exact g5
  · rw [h1 6 (by decide) (by decide)]; exact g6
  · rw [h1 7 (by decide) (by decide)]; exact g7
  · rw [h1 8 (by decide) (by decide)]; exact g8
  · rw [h1 9 (by decide) (by decide)]; exact g9
  · exact ⟨by omega, by omega⟩
  · rw [h1 0 (by decide) (by decide)]; exact g0
theorem oCS_do {x : Cx} {t : Cs} {w v b d : Int} (h0 : 0 < (xN x)) (hn : (xN x) ≤ 15) (h : oCS t (xN x) b d) (hv : w = 3 → 0 ≤ v ∧ v ≤ 1) : oCS (csDo x t w v) (xN x) (b + 15) (d + 15) := by
  unfold csDo
  have up : ∀ {t : Cs} {b d b' d' : Int}, b ≤ b' → d ≤ d' → oCS t (xN x) b d → oCS t (xN x) b' d' := fun hb hd g => by
    obtain ⟨⟨g5, g6, g7, g8, g9, g4⟩, g3, g0⟩ := g
    exact ⟨⟨g5, ⟨by omega, by omega⟩, ⟨by omega, by omega⟩, ⟨by omega, by omega⟩, g9, ⟨by omega, by omega⟩⟩, g3, g0⟩
  split
  · rename_i e
    have g : oCS (cU t.1 0 v, t.2) (xN x) b d := ⟨h.1, h.2.1, hv e⟩
    exact up (by omega) (by omega) (oCS_C h0 g)
  · split
    · have g : oCS (cU (cU t.1 1 (zAnd (t.1 1) (zXor (zShl 1 v) (-1)))) 2 (zAnd (t.1 2) (zXor (zShl 1 v) (-1))), t.2) (xN x) b d := ⟨h.1, h.2.1, h.2.2⟩
      exact up (by omega) (by omega) g
    · have g : oCS (cU (cU t.1 1 (zOr (t.1 1) (if w = 0 then zShl 1 v else 0))) 2 (zOr (t.1 2) (if w = 1 then zShl 1 v else 0)), t.2) (xN x) b d := ⟨h.1, h.2.1, h.2.2⟩
      exact oCS_C h0 (oCS_mk hn g)
/-! what stays -/
def fK (X X1 Y Y1 : Nat → Int → Int) (i : Nat) : Prop := (∀ a, a ≠ i → a ≠ i + 17 → X1 a = X a) ∧ (∀ s, (s < 28 ∨ (28 < s ∧ s < 36) ∨ (37 < s ∧ s < 41) ∨ 47 < s) → X1 i s = X i s) ∧ ∀ a, a ≠ i + 18 → Y1 a = Y a
theorem fK.rf {X Y : Nat → Int → Int} {i : Nat} : fK X X Y Y i := ⟨fun _ _ _ => rfl, fun _ _ => rfl, fun _ _ => rfl⟩
theorem fK.tr {X X1 X2 Y Y1 Y2 : Nat → Int → Int} {i : Nat} (h : fK X X1 Y Y1 i) (g : fK X1 X2 Y1 Y2 i) : fK X X2 Y Y2 i :=
  ⟨fun a h1 h2 => (g.1 a h1 h2).trans (h.1 a h1 h2), fun s h1 => (g.2.1 s h1).trans (h.2.1 s h1), fun a h1 => (g.2.2 a h1).trans (h.2.2 a h1)⟩
theorem fK_t {X X1 Y Y1 : Nat → Int → Int} {i : Nat} (h : fK X X1 Y Y1 i) : tS X X1 i := ⟨h.1 _ (by omega) (by omega), h.1 _ (by omega) (by omega), h.2.1 _ (by omega), h.2.1 _ (by omega), h.2.1 _ (by omega), h.2.1 _ (by omega), h.2.1 _ (by omega)⟩
theorem rCx_t {X X1 Y Y1 : Nat → Int → Int} {i : Nat} (h : fK X X1 Y Y1 i) : rCx X1 i = rCx X i := by
  have t := fK_t h
  unfold rCx
  rw [rP_t t, rW_t t, rG_t t, sdf_t t, t.2.2.2.2.2.1, h.2.1 29 (by omega)]
theorem oH_f {X X1 Y Y1 : Nat → Int → Int} {i : Nat} (f : fK X X1 Y Y1 i) (h28 : 0 ≤ X1 i 28 ∧ X1 i 28 ≤ 1) (h : oH X Y i) : oH X1 Y1 i := by
  have t := fK_t f
  obtain ⟨⟨hg, ha, hb, hbs⟩, ⟨-, h29⟩, hl, h35, hM⟩ := h
  have e27 := t.2.2.2.2.2.1
  refine ⟨⟨oG_t t hg, oA_t t ha, by rw [e27]; exact hb, by rw [e27]; exact oBs_t t hbs⟩, ⟨h28, by rw [f.2.1 29 (by omega)]; exact h29⟩, fun j hj => ?_, ?_, fun j hj M hm => ?_⟩
  · rw [e27] at hj
    rw [rP_t t, rW_t t, rG_t t, f.1 (i + 13) (by omega) (by omega), f.2.2 (i + 14) (by omega), f.2.2 (i + 15) (by omega)]
    exact hl j hj
  · rw [f.2.1 35 (by omega), e27, sdf_t t]
    exact h35
  · rw [e27] at hj
    rw [rS_t t] at hm
    unfold lM
    rw [f.1 (i + 16) (by omega) (by omega)]
    exact hM j hj M hm
/-- the course's tip -/
theorem mCt_R {X Y : Nat → Int → Int} {i : Nat} {t : Cs} (hn : 0 < (X i 27).toNat) (h : cR X i (X i 27).toNat t) (w0 : mHas (t.1 3) 0 = true) : mCt X Y i = csTip (xP (rCx X i)) (xW (rCx X i)) (xG (rCx X i)) (xN (rCx X i)) (xT (rCx X i)) t.1 t.2 := by
  unfold mCt csTip rCx
  rw [h.1]
  refine sTip_cong hn w0 (fun j hj => rfl) (fun j hj => rfl) (fun _ _ => rfl) (fun a b h1 h2 h3 h4 => ?_)
  unfold ahT kX
  show (if X i 29 = 0 then _ else _) = if X i 29 = 0 then _ else _
  rw [h.2 a h1 h3, h.2 b h2 h4]
theorem cR_bc {X : Nat → Int → Int} {i n : Nat} {t : Cs} (h : cR X i n t) {q : Nat} (hq : q < n) (hn : n ≤ 15) : cR (bcW X i q) i n (csBc t q) := by
  have e36 : X i 36 = t.1 3 := congrFun h.1 3
  have e37 : X i 37 = t.1 4 := congrFun h.1 4
  refine ⟨?_, fun j hj hw => ?_⟩
  · unfold bcW
    rw [cX_37, cX_k (zU_o (by omega)), cX_36, h.1, e36, e37]
    rfl
  · have hw : mHas (zOr (t.1 3) (zShl 1 q)) j = true := hw
    rw [mHas_set (by omega) (by omega)] at hw
    unfold bcW csBc
    rw [zU_o (by omega)]
    by_cases g : j = q
    · rw [g, zU_s]
      show _ = if q = q then _ else _
      rw [if_pos rfl]
      exact e37
    · rw [zU_n (by omega), zU_o (by omega)]
      show _ = if j = q then _ else _
      rw [if_neg g]
      rw [decide_eq_false g, Bool.or_false] at hw
      exact h.2 j hj hw
abbrev cX11_makesWhole : ByteArray := prog_13_method_70_code
def yX11_makesWhole : MethodName := ⟨RX11, "makesWhole", "()V"⟩
theorem dX11_makesWhole_0 : decode cX11_makesWhole 0 = .ok (.iconst 1, 1) := by decide +kernel
theorem dX11_makesWhole_1 : decode cX11_makesWhole 1 = .ok (.istore_n 1, 1) := by decide +kernel
theorem dX11_makesWhole_2 : decode cX11_makesWhole 2 = .ok (.iload_n 1, 1) := by decide +kernel
theorem dX11_makesWhole_3 : decode cX11_makesWhole 3 = .ok (.aload_n 0, 1) := by decide +kernel
theorem dX11_makesWhole_4 : decode cX11_makesWhole 4 = .ok (.getfield 255, 3) := by decide +kernel
theorem dX11_makesWhole_7 : decode cX11_makesWhole 7 = .ok (.if_icmp .ge 61, 3) := by decide +kernel
theorem dX11_makesWhole_10 : decode cX11_makesWhole 10 = .ok (.aload_n 0, 1) := by decide +kernel
theorem dX11_makesWhole_11 : decode cX11_makesWhole 11 = .ok (.getfield 322, 3) := by decide +kernel
theorem dX11_makesWhole_14 : decode cX11_makesWhole 14 = .ok (.iload_n 1, 1) := by decide +kernel
theorem dX11_makesWhole_15 : decode cX11_makesWhole 15 = .ok (.invokestatic 92, 3) := by decide +kernel
theorem dX11_makesWhole_18 : decode cX11_makesWhole 18 = .ok (.ifCond .ne 44, 3) := by decide +kernel
theorem dX11_makesWhole_21 : decode cX11_makesWhole 21 = .ok (.aload_n 0, 1) := by decide +kernel
theorem dX11_makesWhole_22 : decode cX11_makesWhole 22 = .ok (.getfield 361, 3) := by decide +kernel
theorem dX11_makesWhole_25 : decode cX11_makesWhole 25 = .ok (.aload_n 0, 1) := by decide +kernel
theorem dX11_makesWhole_26 : decode cX11_makesWhole 26 = .ok (.getfield 364, 3) := by decide +kernel
theorem dX11_makesWhole_29 : decode cX11_makesWhole 29 = .ok (.iand, 1) := by decide +kernel
theorem dX11_makesWhole_30 : decode cX11_makesWhole 30 = .ok (.aload_n 0, 1) := by decide +kernel
theorem dX11_makesWhole_31 : decode cX11_makesWhole 31 = .ok (.getfield 292, 3) := by decide +kernel
theorem dX11_makesWhole_34 : decode cX11_makesWhole 34 = .ok (.iand, 1) := by decide +kernel
theorem dX11_makesWhole_35 : decode cX11_makesWhole 35 = .ok (.iload_n 1, 1) := by decide +kernel
theorem dX11_makesWhole_36 : decode cX11_makesWhole 36 = .ok (.invokestatic 92, 3) := by decide +kernel
theorem dX11_makesWhole_39 : decode cX11_makesWhole 39 = .ok (.ifCond .eq 23, 3) := by decide +kernel
theorem dX11_makesWhole_42 : decode cX11_makesWhole 42 = .ok (.aload_n 0, 1) := by decide +kernel
theorem dX11_makesWhole_43 : decode cX11_makesWhole 43 = .ok (.getfield 322, 3) := by decide +kernel
theorem dX11_makesWhole_46 : decode cX11_makesWhole 46 = .ok (.aload_n 0, 1) := by decide +kernel
theorem dX11_makesWhole_47 : decode cX11_makesWhole 47 = .ok (.iload_n 1, 1) := by decide +kernel
theorem dX11_makesWhole_48 : decode cX11_makesWhole 48 = .ok (.invokevirtual 264, 3) := by decide +kernel
theorem dX11_makesWhole_51 : decode cX11_makesWhole 51 = .ok (.invokestatic 92, 3) := by decide +kernel
theorem dX11_makesWhole_54 : decode cX11_makesWhole 54 = .ok (.ifCond .eq 8, 3) := by decide +kernel
theorem dX11_makesWhole_57 : decode cX11_makesWhole 57 = .ok (.aload_n 0, 1) := by decide +kernel
theorem dX11_makesWhole_58 : decode cX11_makesWhole 58 = .ok (.iload_n 1, 1) := by decide +kernel
theorem dX11_makesWhole_59 : decode cX11_makesWhole 59 = .ok (.invokevirtual 343, 3) := by decide +kernel
theorem dX11_makesWhole_62 : decode cX11_makesWhole 62 = .ok (.iinc 1 1, 3) := by decide +kernel
theorem dX11_makesWhole_65 : decode cX11_makesWhole 65 = .ok (.goto (-63), 3) := by decide +kernel
theorem dX11_makesWhole_68 : decode cX11_makesWhole 68 = .ok (.return_, 1) := by decide +kernel
def F_X11_makesWhole (i : Nat) (X Y : Nat → Int → Int) (R : Nat → Int → Option Nat)  : Prop := (∀ i j, rI (X i j)) → (∀ i j, rL (Y i j)) → (∃ q : Nat, (1 : Int) = q ∧ 1 ≤ q ∧ (1 : Int) ≤ X i 27 ∧ tW X X i ∧ ∀ t, cR X i (X i 27).toNat t → cR X i (X i 27).toNat (csMk (rCx X i) t q)) ∧ (∀ (k : Int) (X2 : Nat → Int → Int), rI k → (∀ i j, rI (X2 i j)) → (∃ q : Nat, k = q ∧ 1 ≤ q ∧ k ≤ X i 27 ∧ tW X X2 i ∧ ∀ t, cR X i (X i 27).toNat t → cR X2 i (X i 27).toNat (csMk (rCx X i) t q)) → ((((X2 (i) 27) ≤ k) → (tW X (X2) i ∧ ∀ t, cR X i (X i 27).toNat t → cR (X2) i (X i 27).toNat (csMk (rCx X i) t (X i 27).toNat))) ∧ ((¬ ((X2 (i) 27) ≤ k)) → ((((mHas (X2 (i) 36) (k)) = true) → ((rI (k + 1)) ∧ (∃ q : Nat, k + 1 = q ∧ 1 ≤ q ∧ k + 1 ≤ X i 27 ∧ tW X X2 i ∧ ∀ t, cR X i (X i 27).toNat t → cR X2 i (X i 27).toNat (csMk (rCx X i) t q)) ∧ (((X i 27 - (k + 1)).toNat) < ((X i 27 - (k)).toNat)))) ∧ (((mHas (X2 (i) 36) (k)) = false) → ((((mHas (zAnd (zAnd (X2 (i) 41) (X2 (i) 42)) (X2 (i) 35)) (k)) = false) → ((rI (k + 1)) ∧ (∃ q : Nat, k + 1 = q ∧ 1 ≤ q ∧ k + 1 ≤ X i 27 ∧ tW X X2 i ∧ ∀ t, cR X i (X i 27).toNat t → cR X2 i (X i 27).toNat (csMk (rCx X i) t q)) ∧ (((X i 27 - (k + 1)).toNat) < ((X i 27 - (k)).toNat)))) ∧ (((mHas (zAnd (zAnd (X2 (i) 41) (X2 (i) 42)) (X2 (i) 35)) (k)) = true) → ((oC X2 i ∧ 0 ≤ k ∧ k ≤ 14) ∧ (rI (mPar X2 i (k)) → ((((mHas (X2 (i) 36) (mPar X2 i (k))) = false) → ((rI (k + 1)) ∧ (∃ q : Nat, k + 1 = q ∧ 1 ≤ q ∧ k + 1 ≤ X i 27 ∧ tW X X2 i ∧ ∀ t, cR X i (X i 27).toNat t → cR X2 i (X i 27).toNat (csMk (rCx X i) t q)) ∧ (((X i 27 - (k + 1)).toNat) < ((X i 27 - (k)).toNat)))) ∧ (((mHas (X2 (i) 36) (mPar X2 i (k))) = true) → ((0 ≤ k ∧ k ≤ 14 ∧ 0 ≤ X2 i 37 ∧ X2 i 37 ≤ 1000) ∧ (∀ X13 : Nat → Int → Int, (∀ i j, rI (X13 i j)) → (X13 = bcW X2 i (k)) → ((rI (k + 1)) ∧ (∃ q : Nat, k + 1 = q ∧ 1 ≤ q ∧ k + 1 ≤ X i 27 ∧ tW X X13 i ∧ ∀ t, cR X i (X i 27).toNat t → cR X13 i (X i 27).toNat (csMk (rCx X i) t q)) ∧ (((X i 27 - (k + 1)).toNat) < ((X i 27 - (k)).toNat))))))))))))))))
set_option maxHeartbeats 4000000 in
set_option maxRecDepth 100000 in
theorem w_X11_makesWhole {l : Launch} {D : va_G} {cy : Nat → ClassId} {bs N : Nat} {sa : Nat → Nat} {kd len : Nat → Nat} {X Y : Nat → Int → Int} {R : Nat → Int → Option Nat} {i : Nat} (hM : zM N kd len R i)  (hF : F_X11_makesWhole i X Y R ) : Met l yX11_makesWhole (.code yX11_makesWhole cX11_makesWhole 2 none :: zTB) (zRm 2 43) (zPc D cy bs sa N kd len X Y R [.ref (bs + (i))]) (zQv D cy bs N kd len (fun st => st.2.1 = Y ∧ st.2.2 = R ∧ (tW X (st.1) i ∧ ∀ t, cR X i (X i 27).toNat t → cR (st.1) i (X i 27).toNat (csMk (rCx X i) t (X i 27).toNat)))) 0 0 (zA bs) := by
  refine zstart (by decide) (Nat.le_of_ble_eq_true rfl) ?_
  intro p e s m args below meth c ls C hE hH hr hlk hnm hl hargs
  have hF := hF hH.2.2.1 hH.2.2.2
  have hS : va_S (zA bs) s.heap s.heap [] := va_S.rf
  have hl : lv_has ls 2 [(0, .ref (bs + (i)))] := hl
  refine zd_iconst C dX11_makesWhole_0 ?_
  refine lv_istore_n (lv' := [(1, .int (zI (1))), (0, .ref (bs + (i)))]) C.1 C.2.1 dX11_makesWhole_1 rfl hl (by decide) rfl (fun ls hl => ?_)
  obtain ⟨hI1, hF⟩ := hF
  have L1 : ∀ (fu : Nat) (k : Int) (X2 : Nat → Int → Int), rI k → (∃ q : Nat, k = q ∧ 1 ≤ q ∧ k ≤ X i 27 ∧ tW X X2 i ∧ ∀ t, cR X i (X i 27).toNat t → cR X2 i (X i 27).toNat (csMk (rCx X i) t q)) → ((X i 27 - (k)).toNat) < fu → ∀ (H : Heap) (locs : List Loc) (ls : Array Slot), zH D cy bs N kd len X2 Y R H → va_S (zA bs) s.heap H locs → lv_has ls 2 [(1, .int (zI (k))), (0, .ref (bs + (i)))] → W p l e (zRm 2 43) s m args below meth c H locs 0 0 (MQ below (zQv D cy bs N kd len (fun st => st.2.1 = Y ∧ st.2.2 = R ∧ (tW X (st.1) i ∧ ∀ t, cR X i (X i 27).toNat t → cR (st.1) i (X i 27).toNat (csMk (rCx X i) t (X i 27).toNat)))) args s 0 0 (zA bs)) (F0 m 2 ls []) := by
    intro fu
    induction fu with
    | zero => intro k X2 _ _ hmu; exact absurd hmu (Nat.not_lt_zero _)
    | succ fu ih1 =>
      intro k X2 hk hI hmu1 H locs ls hH hS hl
      have hF := hF k X2 hk hH.2.2.1 hI
      refine lv_iload_n C.1 C.2.1 dX11_makesWhole_2 rfl (lv_at hl 0 rfl) ?_
      refine lv_aload_n C.1 C.2.1 dX11_makesWhole_3 rfl (lv_at hl 1 rfl) ?_
      refine zg11_27 C hH (zM_n0 hM) (zM_k0 hM) q_1314 dX11_makesWhole_4 ?_
      refine zd_icmp_ge C hk (hH.2.2.1 _ _) 68 dX11_makesWhole_7 (by decide) (fun c3 => ?_) (fun c3 => ?_)
      · have hF := hF.1 c3
        exact zd_vret C hr hlk hH hS (⟨rfl, rfl, hF⟩) dX11_makesWhole_68
      · have hF := hF.2 c3
        refine lv_aload_n C.1 C.2.1 dX11_makesWhole_10 rfl (lv_at hl 1 rfl) ?_
        refine zg11_36 C hH (zM_n0 hM) (zM_k0 hM) q_1323 dX11_makesWhole_11 ?_
        refine lv_iload_n C.1 C.2.1 dX11_makesWhole_14 rfl (lv_at hl 0 rfl) ?_
        refine zgoi (zrunS (As := [.int (zI (X2 (i) 36)), .int (zI (k))]) (rest := []) C hE hH hS hl.1 (c_X11_has (l := l)  (X2 (i) 36) (hH.2.2.1 _ _) (k) hk) k_RX11_92 ⟨Nat.le_of_ble_eq_true rfl, Nat.le_of_ble_eq_true rfl⟩ rfl (Nat.le_of_ble_eq_true rfl) dX11_makesWhole_15 ⟨Nat.zero_le _, Nat.zero_le _⟩) hS (fun rq Xq Yq Rq H locs hrq hq hH hS => ?_)
        obtain ⟨h91, h92⟩ := hq
        have h93 : Xq = X2 := congrArg (fun z => z.1) h92
        have h94 : Yq = Y := congrArg (fun z => z.2.1) h92
        have h95 : Rq = R := congrArg (fun z => z.2.2) h92
        rw [h93, h94, h95] at hH
        subst h91
        refine zd_ifB_ne C 62 dX11_makesWhole_18 (by decide) (fun c4 => ?_) (fun c4 => ?_)
        · have hF := hF.1 c4
          refine zd_iinc (k := 0) (lv' := [(1, .int (zI (k + 1))), (0, .ref (bs + (i)))]) C hl rfl dX11_makesWhole_62 (by decide) rfl (fun ls hl => ?_)
          refine lv_goto (tgt := 2) C.1 C.2.1 dX11_makesWhole_65 (by decide) ?_
          obtain ⟨o5, hF⟩ := hF
          exact ih1 (k + 1) X2 o5 hF.1 (Nat.lt_of_lt_of_le hF.2 (Nat.le_of_lt_succ hmu1)) _ _ _ hH hS (lv_sub hl [0, 1] rfl)
        · have hF := hF.2 c4
          refine lv_aload_n C.1 C.2.1 dX11_makesWhole_21 rfl (lv_at hl 1 rfl) ?_
          refine zg11_41 C hH (zM_n0 hM) (zM_k0 hM) q_1328 dX11_makesWhole_22 ?_
          refine lv_aload_n C.1 C.2.1 dX11_makesWhole_25 rfl (lv_at hl 1 rfl) ?_
          refine zg11_42 C hH (zM_n0 hM) (zM_k0 hM) q_1329 dX11_makesWhole_26 ?_
          refine zd_iand C dX11_makesWhole_29 ?_
          refine lv_aload_n C.1 C.2.1 dX11_makesWhole_30 rfl (lv_at hl 1 rfl) ?_
          refine zg11_35 C hH (zM_n0 hM) (zM_k0 hM) q_1322 dX11_makesWhole_31 ?_
          refine zd_iand C dX11_makesWhole_34 ?_
          refine lv_iload_n C.1 C.2.1 dX11_makesWhole_35 rfl (lv_at hl 0 rfl) ?_
          refine zgoi (zrunS (As := [.int (zI (zAnd (zAnd (X2 (i) 41) (X2 (i) 42)) (X2 (i) 35))), .int (zI (k))]) (rest := []) C hE hH hS hl.1 (c_X11_has (l := l)  (zAnd (zAnd (X2 (i) 41) (X2 (i) 42)) (X2 (i) 35)) (zI_rg _) (k) hk) k_RX11_92 ⟨Nat.le_of_ble_eq_true rfl, Nat.le_of_ble_eq_true rfl⟩ rfl (Nat.le_of_ble_eq_true rfl) dX11_makesWhole_36 ⟨Nat.zero_le _, Nat.zero_le _⟩) hS (fun rq Xq Yq Rq H locs hrq hq hH hS => ?_)
          obtain ⟨h91, h92⟩ := hq
          have h93 : Xq = X2 := congrArg (fun z => z.1) h92
          have h94 : Yq = Y := congrArg (fun z => z.2.1) h92
          have h95 : Rq = R := congrArg (fun z => z.2.2) h92
          rw [h93, h94, h95] at hH
          subst h91
          refine zd_ifB_eq C 62 dX11_makesWhole_39 (by decide) (fun c6 => ?_) (fun c6 => ?_)
          · have hF := hF.1 c6
            refine zd_iinc (k := 0) (lv' := [(1, .int (zI (k + 1))), (0, .ref (bs + (i)))]) C hl rfl dX11_makesWhole_62 (by decide) rfl (fun ls hl => ?_)
            refine lv_goto (tgt := 2) C.1 C.2.1 dX11_makesWhole_65 (by decide) ?_
            obtain ⟨o7, hF⟩ := hF
            exact ih1 (k + 1) X2 o7 hF.1 (Nat.lt_of_lt_of_le hF.2 (Nat.le_of_lt_succ hmu1)) _ _ _ hH hS (lv_sub hl [0, 1] rfl)
          · have hF := hF.2 c6
            refine lv_aload_n C.1 C.2.1 dX11_makesWhole_42 rfl (lv_at hl 1 rfl) ?_
            refine zg11_36 C hH (zM_n0 hM) (zM_k0 hM) q_1323 dX11_makesWhole_43 ?_
            refine lv_aload_n C.1 C.2.1 dX11_makesWhole_46 rfl (lv_at hl 1 rfl) ?_
            refine lv_iload_n C.1 C.2.1 dX11_makesWhole_47 rfl (lv_at hl 0 rfl) ?_
            obtain ⟨o8, hF⟩ := hF
            refine zgoi (zrunV (As := [.int (zI (k))]) (rest := [.int (zI (X2 (i) 36))]) C hE hH hS hl.1 (c_X11_parentOf (l := l) hM (k) hk o8) k_RX11_264 ⟨Nat.le_of_ble_eq_true rfl, Nat.le_of_ble_eq_true rfl⟩ (zM_n0 hM) (zM_k0 hM) rfl rfl rfl (Nat.le_of_ble_eq_true rfl) dX11_makesWhole_48 ⟨Nat.zero_le _, Nat.zero_le _⟩) hS (fun rq Xq Yq Rq H locs hrq hq hH hS => ?_)
            obtain ⟨h91, h92⟩ := hq
            have h93 : Xq = X2 := congrArg (fun z => z.1) h92
            have h94 : Yq = Y := congrArg (fun z => z.2.1) h92
            have h95 : Rq = R := congrArg (fun z => z.2.2) h92
            rw [h93, h94, h95] at hH
            subst h91
            have hr9 := hrq
            have hF := hF hr9
            refine zgoi (zrunS (As := [.int (zI (X2 (i) 36)), .int (zI (mPar X2 i (k)))]) (rest := []) C hE hH hS hl.1 (c_X11_has (l := l)  (X2 (i) 36) (hH.2.2.1 _ _) (mPar X2 i (k)) hr9) k_RX11_92 ⟨Nat.le_of_ble_eq_true rfl, Nat.le_of_ble_eq_true rfl⟩ rfl (Nat.le_of_ble_eq_true rfl) dX11_makesWhole_51 ⟨Nat.zero_le _, Nat.zero_le _⟩) hS (fun rq Xq Yq Rq H locs hrq hq hH hS => ?_)
            obtain ⟨h91, h92⟩ := hq
            have h93 : Xq = X2 := congrArg (fun z => z.1) h92
            have h94 : Yq = Y := congrArg (fun z => z.2.1) h92
            have h95 : Rq = R := congrArg (fun z => z.2.2) h92
            rw [h93, h94, h95] at hH
            subst h91
            refine zd_ifB_eq C 62 dX11_makesWhole_54 (by decide) (fun c10 => ?_) (fun c10 => ?_)
            · have hF := hF.1 c10
              refine zd_iinc (k := 0) (lv' := [(1, .int (zI (k + 1))), (0, .ref (bs + (i)))]) C hl rfl dX11_makesWhole_62 (by decide) rfl (fun ls hl => ?_)
              refine lv_goto (tgt := 2) C.1 C.2.1 dX11_makesWhole_65 (by decide) ?_
              obtain ⟨o11, hF⟩ := hF
              exact ih1 (k + 1) X2 o11 hF.1 (Nat.lt_of_lt_of_le hF.2 (Nat.le_of_lt_succ hmu1)) _ _ _ hH hS (lv_sub hl [0, 1] rfl)
            · have hF := hF.2 c10
              refine lv_aload_n C.1 C.2.1 dX11_makesWhole_57 rfl (lv_at hl 1 rfl) ?_
              refine lv_iload_n C.1 C.2.1 dX11_makesWhole_58 rfl (lv_at hl 0 rfl) ?_
              obtain ⟨o12, hF⟩ := hF
              refine zgov (zrunV (As := [.int (zI (k))]) (rest := []) C hE hH hS hl.1 (c_X11_becomesWhole (l := l) hM (k) hk o12) k_RX11_343 ⟨Nat.le_of_ble_eq_true rfl, Nat.le_of_ble_eq_true rfl⟩ (zM_n0 hM) (zM_k0 hM) rfl rfl rfl (Nat.le_of_ble_eq_true rfl) dX11_makesWhole_59 ⟨Nat.zero_le _, Nat.zero_le _⟩) hS (fun X13 Yq Rq H locs hq hH hS => ?_)
              obtain ⟨h9Y, h9R, hq⟩ := hq
              dsimp only at h9Y h9R
              rw [h9Y, h9R] at hH
              have hF := hF X13 hH.2.2.1 hq
              refine zd_iinc (k := 0) (lv' := [(1, .int (zI (k + 1))), (0, .ref (bs + (i)))]) C hl rfl dX11_makesWhole_62 (by decide) rfl (fun ls hl => ?_)
              refine lv_goto (tgt := 2) C.1 C.2.1 dX11_makesWhole_65 (by decide) ?_
              obtain ⟨o14, hF⟩ := hF
              exact ih1 (k + 1) X13 o14 hF.1 (Nat.lt_of_lt_of_le hF.2 (Nat.le_of_lt_succ hmu1)) _ _ _ hH hS (lv_sub hl [0, 1] rfl)
  exact L1 (((X i 27 - ((1 : Int))).toNat) + 1) ((1 : Int)) X (by decide) hI1 (Nat.lt_succ_self _) _ _ _ hH hS (lv_sub hl [0, 1] rfl)
theorem v_X11_makesWhole {X Y : Nat → Int → Int} {R : Nat → Int → Option Nat} {i : Nat}  (hp : oH X Y i ∧ 0 ≤ X i 37 ∧ X i 37 ≤ 900) : F_X11_makesWhole i X Y R  := by
  unfold F_X11_makesWhole
  intro hX hY
  obtain ⟨h, hb⟩ := hp
  have h27 := h.1.2.2.1
  have hbs := h.1.2.2.2
  have h35 := h.2.2.2.1
  refine ⟨⟨1, rfl, by decide, by omega, ⟨fun _ _ _ => rfl, fun _ _ _ => rfl⟩, fun t ht => ht⟩, fun k X2 kr xr hI => ?_⟩
  obtain ⟨q, hq, q1, q2, tw, hc⟩ := hI
  subst hq
  have ts := tW_t tw
  have t27 : X2 i 27 = X i 27 := ts.2.2.2.2.2.1
  rw [t27]
  refine ⟨fun c1 => ⟨tw, fun t ht => ?_⟩, fun c1 => ?_⟩
  · have e : (X i 27).toNat = q := by omega
    have g := hc t ht
    rw [show csMk (rCx X i) t (X i 27).toNat = csMk (rCx X i) t q by rw [e]]
    exact g
  have hP := rP_par hbs.1
  have hp7 := hP q q1 (by omega)
  have ep : mPar X2 i q = rP X i q := by rw [mPar_t ts, rP_c hbs.1 q1 (by omega)]
  have e35 : mHas (X2 i 35) q = sdf X i q := by
    rw [tw.2 35 (by decide) (by decide), h35, bS_has _ (by omega) (by omega)]
  rw [ep]
  have wt : ∀ t, cR X i (X i 27).toNat t → csWt (rCx X i) (csMk (rCx X i) t q) q = (!mHas (X2 i 36) q && mHas (zAnd (zAnd (X2 i 41) (X2 i 42)) (X2 i 35)) q && mHas (X2 i 36) (rP X i q)) := fun t ht => by
    have hu := (hc t ht).1
    have u3 : X2 i 36 = (csMk (rCx X i) t q).1 3 := congrFun hu 3
    have u1 : X2 i 41 = (csMk (rCx X i) t q).1 1 := congrFun hu 1
    have u2 : X2 i 42 = (csMk (rCx X i) t q).1 2 := congrFun hu 2
    have ea : ∀ z y, mHas (zAnd z y) q = (mHas z q && mHas y q) := fun z y => by
      rw [mHas_zb _ (by omega), mHas_zb _ (by omega), mHas_zb _ (by omega), zb_and]
    rw [ea, ea, e35]
    unfold csWt
    rw [u1, u2, u3]
    rfl
  have st : ∀ t, csMk (rCx X i) t (q + 1) = if csWt (rCx X i) (csMk (rCx X i) t q) q then csBc (csMk (rCx X i) t q) q else csMk (rCx X i) t q := fun t => by
    show (if q = 0 then _ else _) = _
    rw [if_neg (by omega)]
  have no : (∀ t, cR X i (X i 27).toNat t → csWt (rCx X i) (csMk (rCx X i) t q) q = false) → (rI ((q : Int) + 1)) ∧ (∃ z : Nat, (q : Int) + 1 = z ∧ 1 ≤ z ∧ (q : Int) + 1 ≤ X i 27 ∧ tW X X2 i ∧ ∀ t, cR X i (X i 27).toNat t → cR X2 i (X i 27).toNat (csMk (rCx X i) t z)) ∧ ((X i 27 - ((q : Int) + 1)).toNat < (X i 27 - q).toNat) := fun g => by
    refine ⟨⟨by omega, by omega⟩, ⟨q + 1, by omega, by omega, by omega, tw, fun t ht => ?_⟩, by omega⟩
    rw [st, g t ht]
    exact hc t ht
  refine ⟨fun c2 => no (fun t ht => by rw [wt t ht, c2]; rfl), fun c2 => ⟨fun c3 => no (fun t ht => by rw [wt t ht, c3, Bool.and_false, Bool.false_and]), fun c3 => ⟨⟨oC_t ts hbs.1.1, by omega, by omega⟩, fun _ => ⟨fun c4 => no (fun t ht => by rw [wt t ht, c4, Bool.and_false]), fun c4 => ?_⟩⟩⟩⟩
  have own := hc (cX X i, kX X i) ⟨rfl, fun _ _ _ => rfl⟩
  have fr := csMk_far (rCx X i) (cX X i, kX X i) (by show (X i 27).toNat ≤ 15; omega) q (by show q ≤ (X i 27).toNat; omega)
  have o4 : X2 i 37 = (csMk (rCx X i) (cX X i, kX X i) q).1 4 := congrFun own.1 4
  have f4 := fr.2.1
  have f4 : X i 37 ≤ (csMk (rCx X i) (cX X i, kX X i) q).1 4 ∧ (csMk (rCx X i) (cX X i, kX X i) q).1 4 ≤ X i 37 + q := f4
  refine ⟨⟨by omega, by omega, by omega, by omega⟩, fun X13 r13 e13 => ⟨⟨by omega, by omega⟩, ⟨q + 1, by omega, by omega, by omega, ?_, fun t ht => ?_⟩, by omega⟩⟩
  · rw [e13]
    unfold bcW
    exact ⟨fun b h1 h2 => by rw [zU_o h1, zU_o h2, zU_o h1]; exact tw.1 b h1 h2, fun s h1 h2 => by rw [zU_n (by omega), zU_n (by omega), zU_n (by omega)]; exact tw.2 s h1 h2⟩
  · rw [st, wt t ht, c2, c3, c4, e13]
    exact cR_bc (hc t ht) (by omega) (by omega)
theorem c_X11_makesWhole {l : Launch} {D : va_G} {cy : Nat → ClassId} {bs N : Nat} {sa : Nat → Nat} {kd len : Nat → Nat} {X Y : Nat → Int → Int} {R : Nat → Int → Option Nat} {i : Nat} (hM : zM N kd len R i)  (hp : oH X Y i ∧ 0 ≤ X i 37 ∧ X i 37 ≤ 900) : Met l yX11_makesWhole (.code yX11_makesWhole cX11_makesWhole 2 none :: zTB) (zRm 2 43) (zPc D cy bs sa N kd len X Y R [.ref (bs + (i))]) (zQv D cy bs N kd len (fun st => st.2.1 = Y ∧ st.2.2 = R ∧ (tW X (st.1) i ∧ ∀ t, cR X i (X i 27).toNat t → cR (st.1) i (X i 27).toNat (csMk (rCx X i) t (X i 27).toNat)))) 0 0 (zA bs) := w_X11_makesWhole hM  (v_X11_makesWhole  hp)
