/-! NET AND BLOCKS IN HAND: all that a public call wants -/
def hd9P (X X1 X3 : Nat → Int → Int) (i : Nat) (a b : Int) : Prop := pK X X3 i ∧ sZ (hZ X i a b 0) X3 i ∧ X3 i 27 = 1 + qN X i b ∧ X3 i 26 = X (i + 6) (13 * a + 6) ∧ (∀ k, mIn k 0 (qN X i b) = true → (0 ≤ k ∧ k < X3 i 27) ∧ mHas (X3 i 35) k = sdf (hZ X i a b 0) i k.toNat) ∧ (∀ k w, mIn k 0 (qN X i b) = true → mHas (X3 i 35) k = true → 0 ≤ w → w < 6 → X3 (i + 16) (6 * k + w) = rLd (hZ X i a b 0) i k.toNat w ∧ 0 ≤ X3 (i + 16) (6 * k + w) ∧ X3 (i + 16) (6 * k + w) ≤ 100000) ∧ (∀ q : Nat, (q : Int) < X3 i 27 → mHas (X3 i 35) q = sdf X3 i q) ∧ (∀ s, (s < 24 ∨ 30 < s) → s ≠ 35 → X3 i s = X1 i s) ∧ ∀ z, z ≠ i → z ≠ i + 13 → z ≠ i + 16 → X3 z = X z
theorem hd9 {X X1 X3 Y Y4 : Nat → Int → Int} {i : Nat} {a b : Int} (o1 : ∀ z, z ≠ i → X1 z = X z) (c1 : X1 i 0 = 0) (hk : hK X1 X3 Y Y4 i) (h9 : hS9 X1 X3 i a b) (h : oH X3 Y4 i) : hd9P X X1 X3 i a b := by
  have z : sZ (hZ X i a b 0) X3 i := hS9_Z 0 (o1 _ (by omega)) (o1 _ (by omega)) ((hk.1 _ (by omega) (by omega) (by omega)).trans (o1 _ (by omega))) ((hk.1 _ (by omega) (by omega) (by omega)).trans (o1 _ (by omega))) h9
  have h27 : X3 i 27 = 1 + qN X i b := by rw [h9.2.2.2.1, o1 _ (by omega)]
  have hb := h.1.2.2.1
  have hA := h.1.2.1
  have hBs := h.1.2.2.2
  have h35 := h.2.2.2.1
  have h26 : X3 i 26 = X (i + 6) (13 * a + 6) := z.1.2.2.2.2.1.trans hZ_26
  have hx : ∀ k, mIn k 0 (qN X i b) = true → (0 ≤ k ∧ k < X3 i 27) ∧ mHas (X3 i 35) k = sdf (hZ X i a b 0) i k.toNat := fun k hk => by
    have hm := mIn_t.mp hk
    have h2 : k ≤ X (i + 7) (183 * b) := hm.2
    have h3 : k < X3 i 27 := by rw [h27]; show k < 1 + X (i + 7) (183 * b); omega
    refine ⟨⟨hm.1, h3⟩, ?_⟩
    rw [← sdf_s z, h35]
    have q := bS_has (sdf X3 i) (n := (X3 i 27).toNat) (k := k.toNat) (by omega) (by omega)
    rw [show ((k.toNat : Nat) : Int) = k by omega] at q
    exact q
  refine ⟨⟨fun a h1 h2 => (hk.1 a h1 (by omega) (by omega)).trans (o1 a h1), (hk.2.1 0 (by omega) (by decide)).trans c1⟩, z, h27, h26, hx, fun k w hk hs w0 w1 => ?_, fun q hq => ?_, hk.2.1, fun z h1 h2 h3 => (hk.1 z h1 h2 h3).trans (o1 z h1)⟩
  · obtain ⟨⟨k0, k1⟩, k2⟩ := hx k hk
    rw [k2, ← sdf_s z] at hs
    have q := led_k h (k := k.toNat) (a := w) (by omega) hs w0 w1
    rw [show ((k.toNat : Nat) : Int) = k by omega] at q
    unfold sdf at hs
    obtain ⟨M, hM⟩ := Option.isSome_iff_exists.mp hs
    have b := rS_b hA hBs k.toNat (by omega) M hM w w0 w1
    have e : rLd X3 i k.toNat w = M w := by
      unfold rLd
      rw [hM]
      rfl
    rw [q, ← rLd_s z, e]
    exact ⟨rfl, b.1, by omega⟩
  · rw [h35]
    exact bS_has _ (by omega) (by omega)
theorem em9 {X X1 : Nat → Int → Int} {i : Nat} (h : X1 (i + 5) = X (i + 5)) (s k : Int) : mIs i X1 s k = mIs i X s k := by
  unfold mIs
  rw [h]
theorem tr9 {X X3 X4 : Nat → Int → Int} {i : Nat} (h : pK X X3 i) (g : ∀ a, a ≠ i → (a < i + 11 ∨ i + 24 < a) → X4 a = X3 a) (g0 : X4 i 0 = X3 i 0) : pK X X4 i := ⟨fun a h1 h2 => (g a h1 h2).trans (h.1 a h1 h2), g0.trans h.2⟩
/-! FILL -/
theorem fsU_c {acc : Int} {pf pt pm pe : Nat → Int} {cnt : Int} {row : Nat → Nat} {L L' : Int → Int} (h6 : acc ≤ 6) (hL : eq6 L L') : ∀ q, (fsU acc pf pt pm pe cnt row L q = none ∧ fsU acc pf pt pm pe cnt row L' q = none) ∨ ∃ h s M M', fsU acc pf pt pm pe cnt row L q = some (h, s, M) ∧ fsU acc pf pt pm pe cnt row L' q = some (h, s, M') ∧ eq6 M M'
  | 0 => Or.inr ⟨0, 0, L, L', rfl, rfl, hL⟩
  | q + 1 => by
    rcases fsU_c h6 hL q with ⟨h1, h2⟩ | ⟨h, s, M, M', h1, h2, h3⟩
    · exact Or.inl ⟨fsU_no h1 1, fsU_no h2 1⟩
    · unfold fsU
      rw [h1, h2]
      dsimp only
      cases hf : mIn (pf (row q)) 0 (acc - 1) with
      | false =>
        simp only [Bool.false_and, Bool.and_false]
        exact Or.inl ⟨rfl, rfl⟩
      | true =>
        cases ht : mIn (pt (row q)) 0 (acc - 1) with
        | false =>
          simp only [Bool.false_and, Bool.and_false]
          exact Or.inl ⟨rfl, rfl⟩
        | true =>
          have f1 := mIn_t.mp hf
          have t1 := mIn_t.mp ht
          rw [h3 (pf (row q)) (by omega) (by omega)]
          split
          · have g := upI_c h3 (f := pf (row q)) (v := M' (pf (row q)) - (pm (row q) + pe (row q)))
            refine Or.inr ⟨_, _, _, _, rfl, rfl, ?_⟩
            rw [g (pt (row q)) (by omega) (by omega)]
            exact upI_c g
          · exact Or.inl ⟨rfl, rfl⟩
theorem fsV_c {acc : Int} {pf pt pm pe : Nat → Int} {cnt : Int} {row : Nat → Nat} {L L' : Int → Int} (h6 : acc ≤ 6) (hL : eq6 L L') (n : Nat) : fsV acc pf pt pm pe cnt row L n = fsV acc pf pt pm pe cnt row L' n := by
  unfold fsV
  rcases fsU_c (pf := pf) (pt := pt) (pm := pm) (pe := pe) (cnt := cnt) (row := row) h6 hL n with ⟨h1, h2⟩ | ⟨h, s, M, M', h1, h2, h3⟩
  · rw [h1, h2]
  · rw [h1, h2]
theorem fbI_ge (fv : Nat → Nat → Int) (n : Nat) (s : Int × Nat × Nat) : ∀ m, s.1 ≤ (fbI fv n m s).1
  | 0 => Int.le_refl _
  | m + 1 => by
    have := fbI_ge fv n s m
    unfold fbI
    split
    · show s.1 ≤ fv m n
      omega
    · exact this
theorem fbO_ge {fv : Nat → Nat → Int} (h : fv 0 0 = 0) : ∀ n, 0 ≤ (fbO fv (n + 1)).1
  | 0 => by
    have e : fbO fv (0 + 1) = (fv 0 0, 0, 0) := by
      show (if (-1 : Int) < fv 0 0 then (fv 0 0, 0, 0) else (-1, 0, 0)) = _
      rw [if_pos (by omega)]
    rw [e]
    exact Int.le_of_eq h.symm
  | n + 1 => Int.le_trans (fbO_ge h n) (fbI_ge fv (n + 1) _ _)
def pqF (X : Nat → Int → Int) (i : Nat) (p : Int) (w : Nat) : Nat → Int := fun k => X (i + 10) (25 * p + 1 + 4 * k + w)
def rFlv (X : Nat → Int → Int) (i : Nat) (n c b p : Int) : Nat → Nat → Int := fun m l => fsV (X (i + 6) (13 * n + 6)) (pqF X i p 0) (pqF X i p 1) (pqF X i p 2) (pqF X i p 3) (X (i + 10) (25 * p)) (dg6 l m) (rLd (hZ X i n c 0) i b.toNat) l
def rFl (X : Nat → Int → Int) (i : Nat) (n c b p : Int) : Int × Nat × Nat := fbO (rFlv X i n c b p) 4
def rFill (X : Nat → Int → Int) (i : Nat) (n c b p k : Int) : Int := if mIs i X 4 p && (rOk X i n c && (mIn b 0 (qN X i c) && sdf (hZ X i n c 0) i b.toNat)) then (if k = -1 then (rFl X i n c b p).1 else if mIn k 0 ((rFl X i n c b p).2.1 - 1) then ((dg6 (rFl X i n c b p).2.1 (rFl X i n c b p).2.2 k.toNat : Nat) : Int) else -1) else -1
abbrev cX11_fill : ByteArray := prog_13_method_91_code
def yX11_fill : MethodName := ⟨RX11, "fill", "(IIIII)I"⟩
theorem dX11_fill_0 : decode cX11_fill 0 = .ok (.aload_n 0, 1) := by decide +kernel
theorem dX11_fill_1 : decode cX11_fill 1 = .ok (.iconst 0, 1) := by decide +kernel
theorem dX11_fill_2 : decode cX11_fill 2 = .ok (.putfield 88, 3) := by decide +kernel
theorem dX11_fill_5 : decode cX11_fill 5 = .ok (.aload_n 0, 1) := by decide +kernel
theorem dX11_fill_6 : decode cX11_fill 6 = .ok (.iload 4, 2) := by decide +kernel
theorem dX11_fill_8 : decode cX11_fill 8 = .ok (.invokevirtual 432, 3) := by decide +kernel
theorem dX11_fill_11 : decode cX11_fill 11 = .ok (.ifCond .eq 31, 3) := by decide +kernel
theorem dX11_fill_14 : decode cX11_fill 14 = .ok (.aload_n 0, 1) := by decide +kernel
theorem dX11_fill_15 : decode cX11_fill 15 = .ok (.iload_n 1, 1) := by decide +kernel
theorem dX11_fill_16 : decode cX11_fill 16 = .ok (.iload_n 2, 1) := by decide +kernel
theorem dX11_fill_17 : decode cX11_fill 17 = .ok (.invokevirtual 397, 3) := by decide +kernel
theorem dX11_fill_20 : decode cX11_fill 20 = .ok (.ifCond .eq 22, 3) := by decide +kernel
theorem dX11_fill_23 : decode cX11_fill 23 = .ok (.aload_n 0, 1) := by decide +kernel
theorem dX11_fill_24 : decode cX11_fill 24 = .ok (.iload_n 3, 1) := by decide +kernel
theorem dX11_fill_25 : decode cX11_fill 25 = .ok (.invokevirtual 319, 3) := by decide +kernel
theorem dX11_fill_28 : decode cX11_fill 28 = .ok (.ifCond .eq 14, 3) := by decide +kernel
theorem dX11_fill_31 : decode cX11_fill 31 = .ok (.aload_n 0, 1) := by decide +kernel
theorem dX11_fill_32 : decode cX11_fill 32 = .ok (.getfield 292, 3) := by decide +kernel
theorem dX11_fill_35 : decode cX11_fill 35 = .ok (.iload_n 3, 1) := by decide +kernel
theorem dX11_fill_36 : decode cX11_fill 36 = .ok (.invokestatic 92, 3) := by decide +kernel
theorem dX11_fill_39 : decode cX11_fill 39 = .ok (.ifCond .ne 5, 3) := by decide +kernel
theorem dX11_fill_42 : decode cX11_fill 42 = .ok (.iconst (-1), 1) := by decide +kernel
theorem dX11_fill_43 : decode cX11_fill 43 = .ok (.ireturn, 1) := by decide +kernel
theorem dX11_fill_44 : decode cX11_fill 44 = .ok (.aload_n 0, 1) := by decide +kernel
theorem dX11_fill_45 : decode cX11_fill 45 = .ok (.iload_n 3, 1) := by decide +kernel
theorem dX11_fill_46 : decode cX11_fill 46 = .ok (.invokevirtual 457, 3) := by decide +kernel
theorem dX11_fill_49 : decode cX11_fill 49 = .ok (.istore 6, 2) := by decide +kernel
theorem dX11_fill_51 : decode cX11_fill 51 = .ok (.iload 5, 2) := by decide +kernel
theorem dX11_fill_53 : decode cX11_fill 53 = .ok (.iconst (-1), 1) := by decide +kernel
theorem dX11_fill_54 : decode cX11_fill 54 = .ok (.if_icmp .ne 6, 3) := by decide +kernel
theorem dX11_fill_57 : decode cX11_fill 57 = .ok (.iload 6, 2) := by decide +kernel
theorem dX11_fill_59 : decode cX11_fill 59 = .ok (.ireturn, 1) := by decide +kernel
theorem dX11_fill_60 : decode cX11_fill 60 = .ok (.iload 5, 2) := by decide +kernel
theorem dX11_fill_62 : decode cX11_fill 62 = .ok (.iconst 0, 1) := by decide +kernel
theorem dX11_fill_63 : decode cX11_fill 63 = .ok (.aload_n 0, 1) := by decide +kernel
theorem dX11_fill_64 : decode cX11_fill 64 = .ok (.getfield 451, 3) := by decide +kernel
theorem dX11_fill_67 : decode cX11_fill 67 = .ok (.iconst 1, 1) := by decide +kernel
theorem dX11_fill_68 : decode cX11_fill 68 = .ok (.isub, 1) := by decide +kernel
theorem dX11_fill_69 : decode cX11_fill 69 = .ok (.invokestatic 100, 3) := by decide +kernel
theorem dX11_fill_72 : decode cX11_fill 72 = .ok (.ifCond .ne 5, 3) := by decide +kernel
theorem dX11_fill_75 : decode cX11_fill 75 = .ok (.iconst (-1), 1) := by decide +kernel
theorem dX11_fill_76 : decode cX11_fill 76 = .ok (.ireturn, 1) := by decide +kernel
theorem dX11_fill_77 : decode cX11_fill 77 = .ok (.aload_n 0, 1) := by decide +kernel
theorem dX11_fill_78 : decode cX11_fill 78 = .ok (.getfield 454, 3) := by decide +kernel
theorem dX11_fill_81 : decode cX11_fill 81 = .ok (.istore 7, 2) := by decide +kernel
theorem dX11_fill_83 : decode cX11_fill 83 = .ok (.aload_n 0, 1) := by decide +kernel
theorem dX11_fill_84 : decode cX11_fill 84 = .ok (.getfield 451, 3) := by decide +kernel
theorem dX11_fill_87 : decode cX11_fill 87 = .ok (.iconst 1, 1) := by decide +kernel
theorem dX11_fill_88 : decode cX11_fill 88 = .ok (.isub, 1) := by decide +kernel
theorem dX11_fill_89 : decode cX11_fill 89 = .ok (.istore 8, 2) := by decide +kernel
theorem dX11_fill_91 : decode cX11_fill 91 = .ok (.iload 8, 2) := by decide +kernel
theorem dX11_fill_93 : decode cX11_fill 93 = .ok (.iload 5, 2) := by decide +kernel
theorem dX11_fill_95 : decode cX11_fill 95 = .ok (.if_icmp .le 16, 3) := by decide +kernel
theorem dX11_fill_98 : decode cX11_fill 98 = .ok (.iload 7, 2) := by decide +kernel
theorem dX11_fill_100 : decode cX11_fill 100 = .ok (.bipush 6, 2) := by decide +kernel
theorem dX11_fill_102 : decode cX11_fill 102 = .ok (.idiv, 1) := by decide +kernel
theorem dX11_fill_103 : decode cX11_fill 103 = .ok (.istore 7, 2) := by decide +kernel
theorem dX11_fill_105 : decode cX11_fill 105 = .ok (.iinc 8 (-1), 3) := by decide +kernel
theorem dX11_fill_108 : decode cX11_fill 108 = .ok (.goto (-17), 3) := by decide +kernel
theorem dX11_fill_111 : decode cX11_fill 111 = .ok (.iload 7, 2) := by decide +kernel
theorem dX11_fill_113 : decode cX11_fill 113 = .ok (.bipush 6, 2) := by decide +kernel
theorem dX11_fill_115 : decode cX11_fill 115 = .ok (.irem, 1) := by decide +kernel
theorem dX11_fill_116 : decode cX11_fill 116 = .ok (.ireturn, 1) := by decide +kernel
theorem q_1824 : Cond.methodLink RX11 457 yX11_fillBest ∈ zTB := zmem 1824 (by decide +kernel) rfl
theorem q_1826 : Cond.instanceMethod yX11_fillBest ∈ zTB := zmem 1826 (by decide +kernel) rfl
theorem q_97 : Cond.selects RX11 yX11_fillBest yX11_fillBest ∈ zTB := zmem 97 (by decide +kernel) rfl
theorem q_1827 : Cond.code yX11_fillBest cX11_fillBest 7 (some .int) ∈ zTB := zmem 1827 (by decide +kernel) rfl
theorem k_RX11_457 : zLv RX11 457 RX11 yX11_fillBest cX11_fillBest 7 (some .int) 1 := ⟨⟨q_1824, q_1826, q_97, q_140, q_1827⟩, rfl, ⟨by decide, by decide⟩, by decide +kernel⟩
def F_X11_fill (i : Nat) (X Y : Nat → Int → Int) (R : Nat → Int → Option Nat) (a : Int) (b : Int) (g : Int) (d : Int) (f : Int) : Prop := (∀ i j, rI (X i j)) → (∀ i j, rL (Y i j)) → ∀ X1 : Nat → Int → Int, X1 = zU X (i) 0 (0) → (∀ i j, rI (X1 i j)) → ((0 ≤ X1 (i + 5) 4) ∧ (∀ r4 : Bool, ∀ X3 : Nat → Int → Int, (∀ i j, rI (X3 i j)) → (r4 = mIs i X1 4 (d) ∧ X3 = zU X1 i 48 (d)) → (((r4 = false) → ((-1) = rFill X i (a) (b) (g) (d) (f) ∧ pK X (X3) i)) ∧ ((r4 = true) → ((oTN X3 i) ∧ (∀ r9 : Bool, ∀ X7 : Nat → Int → Int, (∀ i j, rI (X7 i j)) → ∀ Y8 : Nat → Int → Int, (∀ i j, rL (Y8 i j)) → (r9 = (mIs i X3 1 (b) && mIs i X3 0 (a)) ∧ hK X3 (X7) Y (Y8) i ∧ (r9 = true → hS9 X3 (X7) i (a) (b) ∧ oH (X7) (Y8) i)) → (((r9 = false) → ((-1) = rFill X i (a) (b) (g) (d) (f) ∧ pK X (X7) i)) ∧ ((r9 = true) → ((0 ≤ X7 i 27) ∧ ((((mIn (g) 0 (X7 i 27 - 1)) = false) → ((-1) = rFill X i (a) (b) (g) (d) (f) ∧ pK X (X7) i)) ∧ (((mIn (g) 0 (X7 i 27 - 1)) = true) → ((((mHas (X7 (i) 35) (g)) = true) → (((0 ≤ g ∧ g < 15) ∧ (0 ≤ X7 i 26 ∧ X7 i 26 ≤ 6) ∧ oPq X7 i ∧ ∀ y, 0 ≤ y → y < 6 → 0 ≤ X7 (i + 16) (6 * g + y) ∧ X7 (i + 16) (6 * g + y) ≤ 100000) ∧ (∀ r16 : Int, rI r16 → ∀ X15 : Nat → Int → Int, (∀ i j, rI (X15 i j)) → (pv9 X7 (X15) i ∧ fbS (r16) (X15) i (fbO (fun m n => rFv X7 i (rL9 X7 i (g)) m n) 4)) → (((¬ f = (-1)) → ((rI ((X15 (i) 51) - 1)) ∧ ((((mIn (f) ((0 : Int)) ((X15 (i) 51) - 1)) = true) → ((∃ q : Nat, ((X15 (i) 51) - 1) = (X15 i 51) - 1 - (q : Int) ∧ f ≤ ((X15 (i) 51) - 1) ∧ (X15 (i) 52) = (((X15 i 52).toNat / 6 ^ q : Nat) : Int)) ∧ (∀ (nu : Int) (j : Int), rI nu → rI j → (∃ q : Nat, (j) = (X15 i 51) - 1 - (q : Int) ∧ f ≤ (j) ∧ (nu) = (((X15 i 52).toNat / 6 ^ q : Nat) : Int)) → (((j ≤ f) → ((nu).tmod (6) = rFill X i (a) (b) (g) (d) (f) ∧ pK X (X15) i)) ∧ ((¬ (j ≤ f)) → ((rI (j + (-1))) ∧ (∃ q : Nat, (j + (-1)) = (X15 i 51) - 1 - (q : Int) ∧ f ≤ (j + (-1)) ∧ ((nu).tdiv (6)) = (((X15 i 52).toNat / 6 ^ q : Nat) : Int)) ∧ (((j + (-1) + 1).toNat) < ((j + 1).toNat)))))))) ∧ (((mIn (f) ((0 : Int)) ((X15 (i) 51) - 1)) = false) → ((-1) = rFill X i (a) (b) (g) (d) (f) ∧ pK X (X15) i))))) ∧ ((¬ (¬ f = (-1))) → (r16 = rFill X i (a) (b) (g) (d) (f) ∧ pK X (X15) i)))))) ∧ (((mHas (X7 (i) 35) (g)) = false) → ((-1) = rFill X i (a) (b) (g) (d) (f) ∧ pK X (X7) i))))))))))))))
set_option maxHeartbeats 4000000 in
set_option maxRecDepth 100000 in
theorem w_X11_fill {l : Launch} {D : va_G} {cy : Nat → ClassId} {bs N : Nat} {sa : Nat → Nat} {kd len : Nat → Nat} {X Y : Nat → Int → Int} {R : Nat → Int → Option Nat} {i : Nat} (hM : zM N kd len R i) (a : Int) (ha : rI a) (b : Int) (hb : rI b) (g : Int) (hg : rI g) (d : Int) (hd : rI d) (f : Int) (hf : rI f) (hF : F_X11_fill i X Y R a b g d f) : Met l yX11_fill (.code yX11_fill cX11_fill 9 (some .int) :: zTB) (zRm 6 140) (zPc D cy bs sa N kd len X Y R [.ref (bs + (i)), .int (zI (a)), .int (zI (b)), .int (zI (g)), .int (zI (d)), .int (zI (f))]) (zQi D cy bs N kd len (fun r st => st.2.2 = R ∧ (r = rFill X i (a) (b) (g) (d) (f) ∧ pK X (st.1) i))) 0 0 (zA bs) := by
  refine zstart (by decide) (Nat.le_of_ble_eq_true rfl) ?_
  intro p e s m args below meth c ls C hE hH hr hlk hnm hl hargs
  have hF := hF hH.2.2.1 hH.2.2.2
  have hS : va_S (zA bs) s.heap s.heap [] := va_S.rf
  have hl : lv_has ls 9 [(0, .ref (bs + (i))), (1, .int (zI (a))), (2, .int (zI (b))), (3, .int (zI (g))), (4, .int (zI (d))), (5, .int (zI (f)))] := hl
  refine lv_aload_n C.1 C.2.1 dX11_fill_0 rfl (lv_at hl 0 rfl) ?_
  refine zd_iconst C dX11_fill_1 ?_
  refine zp11_0 C hH hS (zM_n0 hM) (zM_k0 hM) q_1287 (by decide) dX11_fill_2 (fun H locs hH hS => ?_)
  obtain ⟨X1, eX1⟩ : ∃ z, z = zU X (i) 0 (0) := ⟨_, rfl⟩
  rw [← eX1] at hH
  have hF := hF X1 eX1 hH.2.2.1
  refine lv_aload_n C.1 C.2.1 dX11_fill_5 rfl (lv_at hl 0 rfl) ?_
  refine lv_iload C.1 C.2.1 dX11_fill_6 (lv_at hl 4 rfl) ?_
  obtain ⟨o2, hF⟩ := hF
  refine zgoi (zrunV (As := [.int (zI (d))]) (rest := []) C hE hH hS hl.1 (c_X11_hasPool (l := l) hM (d) hd o2) k_RX11_432 ⟨Nat.le_of_ble_eq_true rfl, Nat.le_of_ble_eq_true rfl⟩ (zM_n0 hM) (zM_k0 hM) rfl rfl rfl (Nat.le_of_ble_eq_true rfl) dX11_fill_8 ⟨Nat.zero_le _, Nat.zero_le _⟩) hS (fun rq X3 Yq Rq H locs hrq hq hH hS => ?_)
  obtain ⟨h9Y, h9R, hq⟩ := hq
  dsimp only at h9Y h9R
  rw [h9Y, h9R] at hH
  obtain ⟨r4, h91, hq⟩ := hq
  subst h91
  have hF := hF r4 X3 hH.2.2.1 hq
  refine zd_ifB_eq C 42 dX11_fill_11 (by decide) (fun c5 => ?_) (fun c5 => ?_)
  · have hF := hF.1 c5
    refine zd_iconst C dX11_fill_42 ?_
    exact zd_iret C hr hlk hH hS (by decide) (⟨rfl, hF⟩) dX11_fill_43
  · have hF := hF.2 c5
    refine lv_aload_n C.1 C.2.1 dX11_fill_14 rfl (lv_at hl 0 rfl) ?_
    refine lv_iload_n C.1 C.2.1 dX11_fill_15 rfl (lv_at hl 1 rfl) ?_
    refine lv_iload_n C.1 C.2.1 dX11_fill_16 rfl (lv_at hl 2 rfl) ?_
    obtain ⟨o6, hF⟩ := hF
    refine zgoi (zrunV (As := [.int (zI (a)), .int (zI (b))]) (rest := []) C hE hH hS hl.1 (c_X11_hand (l := l) hM (a) ha (b) hb o6) k_RX11_397 ⟨Nat.le_of_ble_eq_true rfl, Nat.le_of_ble_eq_true rfl⟩ (zM_n0 hM) (zM_k0 hM) rfl rfl rfl (Nat.le_of_ble_eq_true rfl) dX11_fill_17 ⟨Nat.zero_le _, Nat.zero_le _⟩) hS (fun rq X7 Y8 Rq H locs hrq hq hH hS => ?_)
    obtain ⟨h9R, hq⟩ := hq
    dsimp only at h9R
    rw [h9R] at hH
    obtain ⟨r9, h91, hq⟩ := hq
    subst h91
    have hF := hF r9 X7 hH.2.2.1 Y8 hH.2.2.2 hq
    refine zd_ifB_eq C 42 dX11_fill_20 (by decide) (fun c10 => ?_) (fun c10 => ?_)
    · have hF := hF.1 c10
      refine zd_iconst C dX11_fill_42 ?_
      exact zd_iret C hr hlk hH hS (by decide) (⟨rfl, hF⟩) dX11_fill_43
    · have hF := hF.2 c10
      refine lv_aload_n C.1 C.2.1 dX11_fill_23 rfl (lv_at hl 0 rfl) ?_
      refine lv_iload_n C.1 C.2.1 dX11_fill_24 rfl (lv_at hl 3 rfl) ?_
      obtain ⟨o11, hF⟩ := hF
      refine zgoi (zrunV (As := [.int (zI (g))]) (rest := []) C hE hH hS hl.1 (c_X11_isBlock (l := l) hM (g) hg o11) k_RX11_319 ⟨Nat.le_of_ble_eq_true rfl, Nat.le_of_ble_eq_true rfl⟩ (zM_n0 hM) (zM_k0 hM) rfl rfl rfl (Nat.le_of_ble_eq_true rfl) dX11_fill_25 ⟨Nat.zero_le _, Nat.zero_le _⟩) hS (fun rq Xq Yq Rq H locs hrq hq hH hS => ?_)
      obtain ⟨h91, h92⟩ := hq
      have h93 : Xq = X7 := congrArg (fun z => z.1) h92
      have h94 : Yq = Y8 := congrArg (fun z => z.2.1) h92
      have h95 : Rq = R := congrArg (fun z => z.2.2) h92
      rw [h93, h94, h95] at hH
      subst h91
      refine zd_ifB_eq C 42 dX11_fill_28 (by decide) (fun c12 => ?_) (fun c12 => ?_)
      · have hF := hF.1 c12
        refine zd_iconst C dX11_fill_42 ?_
        exact zd_iret C hr hlk hH hS (by decide) (⟨rfl, hF⟩) dX11_fill_43
      · have hF := hF.2 c12
        refine lv_aload_n C.1 C.2.1 dX11_fill_31 rfl (lv_at hl 0 rfl) ?_
        refine zg11_35 C hH (zM_n0 hM) (zM_k0 hM) q_1322 dX11_fill_32 ?_
        refine lv_iload_n C.1 C.2.1 dX11_fill_35 rfl (lv_at hl 3 rfl) ?_
        refine zgoi (zrunS (As := [.int (zI (X7 (i) 35)), .int (zI (g))]) (rest := []) C hE hH hS hl.1 (c_X11_has (l := l)  (X7 (i) 35) (hH.2.2.1 _ _) (g) hg) k_RX11_92 ⟨Nat.le_of_ble_eq_true rfl, Nat.le_of_ble_eq_true rfl⟩ rfl (Nat.le_of_ble_eq_true rfl) dX11_fill_36 ⟨Nat.zero_le _, Nat.zero_le _⟩) hS (fun rq Xq Yq Rq H locs hrq hq hH hS => ?_)
        obtain ⟨h91, h92⟩ := hq
        have h93 : Xq = X7 := congrArg (fun z => z.1) h92
        have h94 : Yq = Y8 := congrArg (fun z => z.2.1) h92
        have h95 : Rq = R := congrArg (fun z => z.2.2) h92
        rw [h93, h94, h95] at hH
        subst h91
        refine zd_ifB_ne C 44 dX11_fill_39 (by decide) (fun c13 => ?_) (fun c13 => ?_)
        · have hF := hF.1 c13
          refine lv_aload_n C.1 C.2.1 dX11_fill_44 rfl (lv_at hl 0 rfl) ?_
          refine lv_iload_n C.1 C.2.1 dX11_fill_45 rfl (lv_at hl 3 rfl) ?_
          obtain ⟨o14, hF⟩ := hF
          refine zgoi (zrunV (As := [.int (zI (g))]) (rest := []) C hE hH hS hl.1 (c_X11_fillBest (l := l) hM (g) hg o14) k_RX11_457 ⟨Nat.le_of_ble_eq_true rfl, Nat.le_of_ble_eq_true rfl⟩ (zM_n0 hM) (zM_k0 hM) rfl rfl rfl (Nat.le_of_ble_eq_true rfl) dX11_fill_46 ⟨Nat.zero_le _, Nat.zero_le _⟩) hS (fun r16 X15 Yq Rq H locs hrq hq hH hS => ?_)
          obtain ⟨h9Y, h9R, hq⟩ := hq
          dsimp only at h9Y h9R
          rw [h9Y, h9R] at hH
          have hr16 := hrq
          have hF := hF r16 hrq X15 hH.2.2.1 hq
          refine lv_istore (lv' := [(6, .int (zI (r16))), (0, .ref (bs + (i))), (1, .int (zI (a))), (2, .int (zI (b))), (3, .int (zI (g))), (4, .int (zI (d))), (5, .int (zI (f)))]) C.1 C.2.1 dX11_fill_49 hl (by decide) rfl (fun ls hl => ?_)
          refine lv_iload C.1 C.2.1 dX11_fill_51 (lv_at hl 6 rfl) ?_
          refine zd_iconst C dX11_fill_53 ?_
          refine zd_icmp_ne C hf (by decide) 60 dX11_fill_54 (by decide) (fun c17 => ?_) (fun c17 => ?_)
          · have hF := hF.1 c17
            refine lv_iload C.1 C.2.1 dX11_fill_60 (lv_at hl 6 rfl) ?_
            refine zd_iconst C dX11_fill_62 ?_
            refine lv_aload_n C.1 C.2.1 dX11_fill_63 rfl (lv_at hl 1 rfl) ?_
            refine zg11_51 C hH (zM_n0 hM) (zM_k0 hM) q_1338 dX11_fill_64 ?_
            refine zd_iconst C dX11_fill_67 ?_
            refine zd_isub C dX11_fill_68 ?_
            obtain ⟨o18, hF⟩ := hF
            refine zgoi (zrunS (As := [.int (zI (f)), .int (zI (0)), .int (zI ((X15 (i) 51) - 1))]) (rest := []) C hE hH hS hl.1 (c_X11_in (l := l)  (f) hf (0) (by decide) ((X15 (i) 51) - 1) o18) k_RX11_100 ⟨Nat.le_of_ble_eq_true rfl, Nat.le_of_ble_eq_true rfl⟩ rfl (Nat.le_of_ble_eq_true rfl) dX11_fill_69 ⟨Nat.zero_le _, Nat.zero_le _⟩) hS (fun rq Xq Yq Rq H locs hrq hq hH hS => ?_)
            obtain ⟨h91, h92⟩ := hq
            have h93 : Xq = X15 := congrArg (fun z => z.1) h92
            have h94 : Yq = Y8 := congrArg (fun z => z.2.1) h92
            have h95 : Rq = R := congrArg (fun z => z.2.2) h92
            rw [h93, h94, h95] at hH
            subst h91
            refine zd_ifB_ne C 77 dX11_fill_72 (by decide) (fun c19 => ?_) (fun c19 => ?_)
            · have hF := hF.1 c19
              refine lv_aload_n C.1 C.2.1 dX11_fill_77 rfl (lv_at hl 1 rfl) ?_
              refine zg11_52 C hH (zM_n0 hM) (zM_k0 hM) q_1339 dX11_fill_78 ?_
              refine lv_istore (lv' := [(7, .int (zI (X15 (i) 52))), (6, .int (zI (r16))), (0, .ref (bs + (i))), (1, .int (zI (a))), (2, .int (zI (b))), (3, .int (zI (g))), (4, .int (zI (d))), (5, .int (zI (f)))]) C.1 C.2.1 dX11_fill_81 hl (by decide) rfl (fun ls hl => ?_)
              refine lv_aload_n C.1 C.2.1 dX11_fill_83 rfl (lv_at hl 2 rfl) ?_
              refine zg11_51 C hH (zM_n0 hM) (zM_k0 hM) q_1338 dX11_fill_84 ?_
              refine zd_iconst C dX11_fill_87 ?_
              refine zd_isub C dX11_fill_88 ?_
              refine lv_istore (lv' := [(8, .int (zI ((X15 (i) 51) - 1))), (7, .int (zI (X15 (i) 52))), (6, .int (zI (r16))), (0, .ref (bs + (i))), (1, .int (zI (a))), (2, .int (zI (b))), (3, .int (zI (g))), (4, .int (zI (d))), (5, .int (zI (f)))]) C.1 C.2.1 dX11_fill_89 hl (by decide) rfl (fun ls hl => ?_)
              obtain ⟨hI20, hF⟩ := hF
              have L20 : ∀ (fu : Nat) (nu : Int) (j : Int), rI nu → rI j → (∃ q : Nat, (j) = (X15 i 51) - 1 - (q : Int) ∧ f ≤ (j) ∧ (nu) = (((X15 i 52).toNat / 6 ^ q : Nat) : Int)) → ((j + 1).toNat) < fu → ∀ (H : Heap) (locs : List Loc) (ls : Array Slot), zH D cy bs N kd len X15 Y8 R H → va_S (zA bs) s.heap H locs → lv_has ls 9 [(7, .int (zI (nu))), (8, .int (zI (j))), (0, .ref (bs + (i))), (5, .int (zI (f)))] → W p l e (zRm 6 140) s m args below meth c H locs 0 0 (MQ below (zQi D cy bs N kd len (fun r st => st.2.2 = R ∧ (r = rFill X i (a) (b) (g) (d) (f) ∧ pK X (st.1) i))) args s 0 0 (zA bs)) (F0 m 91 ls []) := by
                intro fu
                induction fu with
                | zero => intro nu j _ _ _ hmu; exact absurd hmu (Nat.not_lt_zero _)
                | succ fu ih20 =>
                  intro nu j hnu hj hI hmu20 H locs ls hH hS hl
                  have hF := hF nu j hnu hj  hI
                  refine lv_iload C.1 C.2.1 dX11_fill_91 (lv_at hl 1 rfl) ?_
                  refine lv_iload C.1 C.2.1 dX11_fill_93 (lv_at hl 3 rfl) ?_
                  refine zd_icmp_le C hj hf 111 dX11_fill_95 (by decide) (fun c21 => ?_) (fun c21 => ?_)
                  · have hF := hF.1 c21
                    refine lv_iload C.1 C.2.1 dX11_fill_111 (lv_at hl 0 rfl) ?_
                    refine zd_bipush C (by decide) dX11_fill_113 ?_
                    refine zd_irem C hnu (by decide) (by decide) (by decide) dX11_fill_115 ?_
                    exact zd_iret C hr hlk hH hS (tmod_rI hnu (show (6 : Int) ≠ -1 from (by decide))) (⟨rfl, hF⟩) dX11_fill_116
                  · have hF := hF.2 c21
                    refine lv_iload C.1 C.2.1 dX11_fill_98 (lv_at hl 0 rfl) ?_
                    refine zd_bipush C (by decide) dX11_fill_100 ?_
                    refine zd_idiv C hnu (by decide) (by decide) (by decide) dX11_fill_102 ?_
                    refine lv_istore (lv' := [(7, .int (zI ((nu).tdiv (6)))), (8, .int (zI (j))), (0, .ref (bs + (i))), (5, .int (zI (f)))]) C.1 C.2.1 dX11_fill_103 hl (by decide) rfl (fun ls hl => ?_)
                    refine zd_iinc (k := 1) (lv' := [(8, .int (zI (j + (-1)))), (7, .int (zI ((nu).tdiv (6)))), (0, .ref (bs + (i))), (5, .int (zI (f)))]) C hl rfl dX11_fill_105 (by decide) rfl (fun ls hl => ?_)
                    refine lv_goto (tgt := 91) C.1 C.2.1 dX11_fill_108 (by decide) ?_
                    obtain ⟨o22, hF⟩ := hF
                    exact ih20 ((nu).tdiv (6)) (j + (-1)) (tdiv_rI hnu (show (6 : Int) ≠ -1 from (by decide))) o22 hF.1 (Nat.lt_of_lt_of_le hF.2 (Nat.le_of_lt_succ hmu20)) _ _ _ hH hS (lv_sub hl [1, 0, 2, 3] rfl)
              exact L20 ((((X15 (i) 51) - 1 + 1).toNat) + 1) (X15 (i) 52) ((X15 (i) 51) - 1) (hH.2.2.1 _ _) o18 hI20 (Nat.lt_succ_self _) _ _ _ hH hS (lv_sub hl [1, 0, 3, 8] rfl)
            · have hF := hF.2 c19
              refine zd_iconst C dX11_fill_75 ?_
              exact zd_iret C hr hlk hH hS (by decide) (⟨rfl, hF⟩) dX11_fill_76
          · have hF := hF.2 c17
            refine lv_iload C.1 C.2.1 dX11_fill_57 (lv_at hl 0 rfl) ?_
            exact zd_iret C hr hlk hH hS hr16 (⟨rfl, hF⟩) dX11_fill_59
        · have hF := hF.2 c13
          refine zd_iconst C dX11_fill_42 ?_
          exact zd_iret C hr hlk hH hS (by decide) (⟨rfl, hF⟩) dX11_fill_43
theorem v_X11_fill {X Y : Nat → Int → Int} {R : Nat → Int → Option Nat} {i : Nat} (a : Int) (ha : rI a) (b : Int) (hb : rI b) (g : Int) (hg : rI g) (d : Int) (hd : rI d) (f : Int) (hf : rI f) (hp : oTN X i ∧ oTPo X i) : F_X11_fill i X Y R a b g d f := by
  unfold F_X11_fill
  intro hX hY
  obtain ⟨hT, hP⟩ := hp
  have b4 := hT.1 4 (by decide) (by decide)
  intro X1
  intro eX1
  have o1 : ∀ z, z ≠ i → X1 z = X z := fun z h => by rw [eX1, zU_o h]
  have z1 : X1 i 0 = 0 := by rw [eX1, zU_s]
  rw [o1 _ (by omega)]
  intro rX1
  refine ⟨?_, ?_⟩
  · first | omega | exact ⟨by omega, by omega⟩ | decide | assumption | exact ⟨by omega, by omega, by omega⟩ | exact ⟨by decide, by decide⟩
  intro r4
  intro X3
  intro rX3
  intro h1
  obtain ⟨e4, e3⟩ := h1
  rw [em9 (o1 _ (by omega))] at e4
  have o3 : ∀ z, z ≠ i → X3 z = X z := fun z h => by rw [e3, zU_o h]; exact o1 z h
  have z3 : X3 i 0 = 0 := by rw [e3, zU_n (by omega), z1]
  have p3 : pK X X3 i := ⟨fun z h _ => o3 z h, z3⟩
  have s48 : X3 i 48 = d := by rw [e3, zU_s]
  refine ⟨?_, ?_⟩
  · intro c1
    exact ⟨by unfold rFill; rw [← e4, c1]; rfl, p3⟩
  intro c2
  refine ⟨?_, ?_⟩
  · exact oTN_k (o3 _ (by omega)) (o3 _ (by omega)) (o3 _ (by omega)) hT
  intro r9
  intro X7
  intro rX7
  intro Y8
  intro rY8
  intro h2
  obtain ⟨e9, hk, h9⟩ := h2
  rw [em9 (o3 _ (by omega)), em9 (o3 _ (by omega))] at e9
  have p7 : pK X X7 i := ⟨fun z g1 g2 => (hk.1 z g1 (by omega) (by omega)).trans (o3 z g1), (hk.2.1 0 (by omega) (by decide)).trans z3⟩
  refine ⟨?_, ?_⟩
  · intro c3
    exact ⟨by unfold rFill rOk; rw [← e9, c3, Bool.false_and, Bool.and_false]; rfl, p7⟩
  intro c4
  obtain ⟨g9, h⟩ := h9 c4
  obtain ⟨-, z, h27, h26, hx, ld, sd, ks, ko⟩ := hd9 o3 z3 hk g9 h
  have hb := h.1.2.2.1
  have hA := h.1.2.1
  have en : X7 i 27 - 1 = qN X i b := by
    rw [h27]
    show 1 + X (i + 7) (183 * b) - 1 = X (i + 7) (183 * b)
    omega
  refine ⟨?_, ?_⟩
  · first | omega | exact ⟨by omega, by omega⟩ | decide | assumption | exact ⟨by omega, by omega, by omega⟩ | exact ⟨by decide, by decide⟩
  refine ⟨?_, ?_⟩
  · intro c5
    rw [en] at c5
    exact ⟨by unfold rFill; rw [c5, Bool.false_and, Bool.and_false, Bool.and_false]; rfl, p7⟩
  intro c6
  rw [en] at c6
  have x7 := (hx g c6).1
  have x8 := (hx g c6).2
  refine ⟨?_, ?_⟩
  · intro c7
    have hd := mIs_t.mp (e4.symm.trans c2)
    have k48 : X7 i 48 = d := (ks 48 (by omega) (by decide)).trans s48
    have k10 : X7 (i + 10) = X (i + 10) := ko _ (by omega) (by omega) (by omega)
    have pe := hP d hd.1 hd.2
    have eQn : mQn X7 i = X (i + 10) (25 * d) := by
      unfold mQn
      rw [k48, k10]
    have eQf : ∀ w, qF X7 i w = pqF X i d w := fun w => by
      unfold qF pqF mQf
      rw [k48, k10]
    have opq : oPq X7 i := by
      refine ⟨?_, by rw [eQn]; exact pe.1, fun k hk => ?_⟩
      · show 0 ≤ X7 i 48 ∧ X7 i 48 ≤ 1
        rw [k48]
        exact ⟨by omega, by omega⟩
      · rw [eQn] at hk
        show (0 ≤ qF X7 i 0 k ∧ qF X7 i 0 k ≤ 5) ∧ (0 ≤ qF X7 i 1 k ∧ qF X7 i 1 k ≤ 5) ∧ (1 ≤ qF X7 i 2 k ∧ qF X7 i 2 k ≤ 99) ∧ (0 ≤ qF X7 i 3 k ∧ qF X7 i 3 k ≤ 9)
        rw [eQf 0, eQf 1, eQf 2, eQf 3]
        exact pe.2 k (by omega) hk
    have led : ∀ y, 0 ≤ y → y < 6 → X7 (i + 16) (6 * g + y) = rLd (hZ X i a b 0) i g.toNat y ∧ 0 ≤ X7 (i + 16) (6 * g + y) ∧ X7 (i + 16) (6 * g + y) ≤ 100000 := fun y y0 y1 => ld g y c6 c7 y0 y1
    have eV : (fun m n => rFv X7 i (rL9 X7 i g) m n) = rFlv X i a b g d := by
      funext m n
      unfold rFlv rFv
      rw [eQn, eQf, eQf, eQf, eQf, h26]
      exact fsV_c (by rw [← h26]; exact hA.1.2) (fun y y0 y1 => (led y y0 y1).1) n
    rw [eV]
    refine ⟨?_, ?_⟩
    · exact ⟨⟨x7.1, by omega⟩, hA.1, opq, fun y y0 y1 => (led y y0 y1).2⟩
    intro r16
    intro _
    intro X15
    intro rX15
    intro h3
    obtain ⟨pv, fs⟩ := h3
    have f0 := fbO_ge (fv := rFlv X i a b g d) rfl 3
    have f0 : 0 ≤ (rFl X i a b g d).1 := f0
    have fs : fbS r16 X15 i (rFl X i a b g d) := fs
    obtain ⟨fe, f5⟩ := fs
    have f5 := f5 (by omega)
    have q51 := (rX15 i 51).2
    rw [f5.1] at q51
    have p15 : pK X X15 i := tr9 p7 (fun z g1 g2 => pv.1 z g1 (by omega) (by omega)) (pv.2 0 (by decide) (by decide))
    rw [x8] at c7
    have u : ∀ y, y = (if f = -1 then (rFl X i a b g d).1 else if mIn f 0 ((rFl X i a b g d).2.1 - 1) then ((dg6 (rFl X i a b g d).2.1 (rFl X i a b g d).2.2 f.toNat : Nat) : Int) else -1) → y = rFill X i a b g d f ∧ pK X X15 i := fun y hy => by
      refine ⟨?_, p15⟩
      unfold rFill rOk
      rw [← e4, c2, ← e9, c4, c6, c7]
      exact hy
    rw [f5.1, f5.2, Int.toNat_natCast]
    refine ⟨?_, ?_⟩
    · intro c8
      refine ⟨?_, ?_⟩
      · first | omega | exact ⟨by omega, by omega⟩ | decide | assumption | exact ⟨by omega, by omega, by omega⟩ | exact ⟨by decide, by decide⟩
      refine ⟨?_, ?_⟩
      · intro c9
        have m9 := mIn_t.mp c9
        refine ⟨?_, ?_⟩
        · exact ⟨0, by omega, by omega, by rw [Nat.pow_zero, Nat.div_one]⟩
        intro nu j
        intro _
        intro _
        intro h4
        obtain ⟨q, hj, hf, hm⟩ := h4
        subst hm
        refine ⟨?_, ?_⟩
        · intro c10
          refine u _ ?_
          rw [if_neg c8, c9, if_pos rfl]
          show (((rFl X i a b g d).2.2 / 6 ^ q % 6 : Nat) : Int) = _
          unfold dg6
          rw [show (rFl X i a b g d).2.1 - 1 - f.toNat = q by omega]
        intro c11
        refine ⟨?_, ?_⟩
        · first | omega | exact ⟨by omega, by omega⟩ | decide | assumption | exact ⟨by omega, by omega, by omega⟩ | exact ⟨by decide, by decide⟩
        refine ⟨?_, ?_⟩
        · refine ⟨q + 1, by omega, by omega, ?_⟩
          show (((rFl X i a b g d).2.2 / 6 ^ q / 6 : Nat) : Int) = _
          rw [Nat.div_div_eq_div_mul, ← Nat.pow_succ]
        first | omega | exact ⟨by omega, by omega⟩ | decide | assumption | exact ⟨by omega, by omega, by omega⟩ | exact ⟨by decide, by decide⟩
      intro c12
      exact u _ (by rw [if_neg c8, c12]; rfl)
    intro c13
    exact u _ (by rw [if_pos (Classical.not_not.mp c13), fe])
  intro c14
  exact ⟨by unfold rFill; rw [← x8, c14, Bool.and_false, Bool.and_false, Bool.and_false]; rfl, p7⟩
theorem c_X11_fill {l : Launch} {D : va_G} {cy : Nat → ClassId} {bs N : Nat} {sa : Nat → Nat} {kd len : Nat → Nat} {X Y : Nat → Int → Int} {R : Nat → Int → Option Nat} {i : Nat} (hM : zM N kd len R i) (a : Int) (ha : rI a) (b : Int) (hb : rI b) (g : Int) (hg : rI g) (d : Int) (hd : rI d) (f : Int) (hf : rI f) (hp : oTN X i ∧ oTPo X i) : Met l yX11_fill (.code yX11_fill cX11_fill 9 (some .int) :: zTB) (zRm 6 140) (zPc D cy bs sa N kd len X Y R [.ref (bs + (i)), .int (zI (a)), .int (zI (b)), .int (zI (g)), .int (zI (d)), .int (zI (f))]) (zQi D cy bs N kd len (fun r st => st.2.2 = R ∧ (r = rFill X i (a) (b) (g) (d) (f) ∧ pK X (st.1) i))) 0 0 (zA bs) := w_X11_fill hM a ha b hb g hg d hd f hf (v_X11_fill a ha b hb g hg d hd f hf hp)
