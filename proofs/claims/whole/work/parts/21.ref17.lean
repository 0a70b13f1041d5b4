theorem oCs_up {c : Nat → Int} {n : Nat} {b d b' d' : Int} (hb : b ≤ b') (hd : d ≤ d') (h : oCs c n b d) : oCs c n b' d' := by
  obtain ⟨g5, g6, g7, g8, g9, g4⟩ := h
  exact ⟨g5, ⟨g6.1, by omega⟩, ⟨g7.1, by omega⟩, ⟨g8.1, by omega⟩, g9, ⟨g4.1, by omega⟩⟩
theorem tW_f {X X1 Y : Nat → Int → Int} {i : Nat} (h : tW X X1 i) : fK X X1 Y Y i := ⟨h.1, fun s hs => h.2 s (by omega) (by omega), fun _ _ => rfl⟩
theorem do_ch {X X1 Y Y1 : Nat → Int → Int} {i n : Nat} {t : Cs} (hn : (X i 27).toNat = n) (h0 : 0 < n) (w0 : mHas (t.1 3) 0 = true) (hR : cR X i n t) (hp : (∀ a, a ≠ i → X1 a = X a) ∧ (∀ s, (s < 43 ∨ 47 < s) → X1 i s = X i s) ∧ cX X1 i = csCh (rP X i) (cX X i) (mCt X Y i) ∧ ∀ a, a ≠ i + 18 → Y1 a = Y a) : fK X X1 Y Y1 i ∧ cR X1 i n (csC (rCx X i) t) := by
  obtain ⟨h1, h2, h3, h4⟩ := hp
  refine ⟨⟨fun a g1 _ => h1 a g1, fun s hs => h2 s (by omega), h4⟩, ?_, fun j hj hw => ?_⟩
  · rw [h3, mCt_R (by omega) (by rw [hn]; exact hR) w0, hR.1]
    rfl
  · rw [h1 (i + 17) (by omega)]
    exact hR.2 j hj hw
/-- what doing a head or a body comes to -/
theorem do_hb {X X10 X12 X14 Y Y15 : Nat → Int → Int} {i : Nat} {a b g1 g2 : Int} (h : oH X Y i) (hc : oCS (cX X i, kX X i) (X i 27).toNat 900 900) (h3 : a ≠ 3) (h2 : a ≠ 2) (e1 : g1 = if a = 0 then zShl 1 b else 0) (e2 : g2 = if a = 1 then zShl 1 b else 0) (e10 : X10 = zU (zU X i 41 (zOr (X i 41) g1)) i 42 (zOr (X i 42) g2)) :
    (oH X10 Y i ∧ 0 ≤ X10 i 37 ∧ X10 i 37 ≤ 900) ∧ ((tW X10 X12 i ∧ ∀ t, cR X10 i (X10 i 27).toNat t → cR X12 i (X10 i 27).toNat (csMk (rCx X10 i) t (X10 i 27).toNat)) → ((oH X12 Y i ∧ mHas (X12 i 36) 0 = true ∧ oCs (cX X12 i) (X12 i 27).toNat 100000 100000) ∧ (((∀ a, a ≠ i → X14 a = X12 a) ∧ (∀ s, (s < 43 ∨ 47 < s) → X14 i s = X12 i s) ∧ cX X14 i = csCh (rP X12 i) (cX X12 i) (mCt X12 Y i) ∧ ∀ a, a ≠ i + 18 → Y15 a = Y a) → fK X X14 Y Y15 i ∧ ∀ t, cR X i (X i 27).toNat t → cR X14 i (X i 27).toNat (csDo (rCx X i) t a b)))) := by
  have h27 := h.1.2.2.1
  have f1 : fK X X10 Y Y i := by
    rw [e10]
    exact ⟨fun z g1 g2 => by rw [zU_o g1, zU_o g1], fun s hs => by rw [zU_n (by omega), zU_n (by omega)], fun _ _ => rfl⟩
  have s28 : X10 i 28 = X i 28 := by rw [e10, zU_n (by omega), zU_n (by omega)]
  have s27 : X10 i 27 = X i 27 := f1.2.1 _ (by omega)
  have s37 : X10 i 37 = X i 37 := by rw [e10, zU_n (by omega), zU_n (by omega)]
  have c37 : 0 ≤ X i 37 ∧ X i 37 ≤ 900 := hc.1.2.2.2.2.2
  have o1 : oH X10 Y i := oH_f f1 (by rw [s28]; exact h.2.1.1) h
  have r1 : rCx X10 i = rCx X i := rCx_t f1
  have k10 : ∀ t, cR X i (X i 27).toNat t → cR X10 i (X i 27).toNat (cU (cU t.1 1 (zOr (t.1 1) g1)) 2 (zOr (t.1 2) g2), t.2) := fun t ht => by
    have u1 : X i 41 = t.1 1 := congrFun ht.1 1
    have u2 : X i 42 = t.1 2 := congrFun ht.1 2
    refine ⟨?_, fun j hj hw => ?_⟩
    · rw [e10, cX_42, cX_41, ht.1, u1, u2]
    · rw [e10, zU_o (by omega), zU_o (by omega)]
      exact ht.2 j hj hw
  refine ⟨⟨o1, by omega, by omega⟩, fun hm => ?_⟩
  rw [s27, r1] at hm
  obtain ⟨tw, hm⟩ := hm
  have f2 : fK X X12 Y Y i := f1.tr (tW_f tw)
  have s28' : X12 i 28 = X i 28 := (tw.2 28 (by decide) (by decide)).trans s28
  have s27' : X12 i 27 = X i 27 := f2.2.1 _ (by omega)
  have own := hm _ (k10 (cX X i, kX X i) ⟨rfl, fun _ _ _ => rfl⟩)
  have og : oCS (cU (cU (cX X i) 1 (zOr (cX X i 1) g1)) 2 (zOr (cX X i 2) g2), kX X i) (X i 27).toNat 900 900 := hc
  have ok := oCS_mk (x := rCx X i) (by show (X i 27).toNat ≤ 15; omega) og
  have o2 : oH X12 Y i := oH_f f2 (by rw [s28']; exact h.2.1.1) h
  have w36 : X12 i 36 = _ := congrFun own.1 3
  refine ⟨⟨o2, ?_, ?_⟩, fun hp => ?_⟩
  · rw [w36]
    exact ok.2.1
  · rw [s27', own.1]
    exact oCs_up (by decide) (by decide) ok.1
  · refine ⟨f2.tr (do_ch (n := (X i 27).toNat) (by rw [s27']) (by omega) ok.2.1 own hp).1, fun t ht => ?_⟩
    have u := hm _ (k10 t ht)
    have w0 : mHas (t.1 3) 0 = true := by
      rw [← congrFun ht.1 3]
      exact hc.2.1
    have w1 := (csMk_far (rCx X i) (cU (cU t.1 1 (zOr (t.1 1) g1)) 2 (zOr (t.1 2) g2), t.2) (by show (X i 27).toNat ≤ 15; omega) (X i 27).toNat (Nat.le_refl _)).2.2 0 (by decide) w0
    have q := (do_ch (n := (X i 27).toNat) (by rw [s27']) (by omega) w1 u hp).2
    rw [rCx_t f2] at q
    unfold csDo
    rw [if_neg h3, if_neg h2, ← e1, ← e2]
    exact q
abbrev cX11_does : ByteArray := prog_13_method_71_code
def yX11_does : MethodName := ⟨RX11, "does", "(II)Z"⟩
theorem dX11_does_0 : decode cX11_does 0 = .ok (.iload_n 1, 1) := by decide +kernel
theorem dX11_does_1 : decode cX11_does 1 = .ok (.iconst 3, 1) := by decide +kernel
theorem dX11_does_2 : decode cX11_does 2 = .ok (.if_icmp .ne 24, 3) := by decide +kernel
theorem dX11_does_5 : decode cX11_does 5 = .ok (.aload_n 0, 1) := by decide +kernel
theorem dX11_does_6 : decode cX11_does 6 = .ok (.getfield 307, 3) := by decide +kernel
theorem dX11_does_9 : decode cX11_does 9 = .ok (.iload_n 2, 1) := by decide +kernel
theorem dX11_does_10 : decode cX11_does 10 = .ok (.if_icmp .ne 5, 3) := by decide +kernel
theorem dX11_does_13 : decode cX11_does 13 = .ok (.iconst 0, 1) := by decide +kernel
theorem dX11_does_14 : decode cX11_does 14 = .ok (.ireturn, 1) := by decide +kernel
theorem dX11_does_15 : decode cX11_does 15 = .ok (.aload_n 0, 1) := by decide +kernel
theorem dX11_does_16 : decode cX11_does 16 = .ok (.iload_n 2, 1) := by decide +kernel
theorem dX11_does_17 : decode cX11_does 17 = .ok (.putfield 307, 3) := by decide +kernel
theorem dX11_does_20 : decode cX11_does 20 = .ok (.aload_n 0, 1) := by decide +kernel
theorem dX11_does_21 : decode cX11_does 21 = .ok (.invokevirtual 388, 3) := by decide +kernel
theorem dX11_does_24 : decode cX11_does 24 = .ok (.iconst 1, 1) := by decide +kernel
theorem dX11_does_25 : decode cX11_does 25 = .ok (.ireturn, 1) := by decide +kernel
theorem dX11_does_26 : decode cX11_does 26 = .ok (.iload_n 2, 1) := by decide +kernel
theorem dX11_does_27 : decode cX11_does 27 = .ok (.iconst 1, 1) := by decide +kernel
theorem dX11_does_28 : decode cX11_does 28 = .ok (.aload_n 0, 1) := by decide +kernel
theorem dX11_does_29 : decode cX11_does 29 = .ok (.getfield 255, 3) := by decide +kernel
theorem dX11_does_32 : decode cX11_does 32 = .ok (.iconst 1, 1) := by decide +kernel
theorem dX11_does_33 : decode cX11_does 33 = .ok (.isub, 1) := by decide +kernel
theorem dX11_does_34 : decode cX11_does 34 = .ok (.invokestatic 100, 3) := by decide +kernel
theorem dX11_does_37 : decode cX11_does 37 = .ok (.ifCond .ne 5, 3) := by decide +kernel
theorem dX11_does_40 : decode cX11_does 40 = .ok (.iconst 0, 1) := by decide +kernel
theorem dX11_does_41 : decode cX11_does 41 = .ok (.ireturn, 1) := by decide +kernel
theorem dX11_does_42 : decode cX11_does 42 = .ok (.iload_n 1, 1) := by decide +kernel
theorem dX11_does_43 : decode cX11_does 43 = .ok (.iconst 2, 1) := by decide +kernel
theorem dX11_does_44 : decode cX11_does 44 = .ok (.if_icmp .ne 62, 3) := by decide +kernel
theorem dX11_does_47 : decode cX11_does 47 = .ok (.aload_n 0, 1) := by decide +kernel
theorem dX11_does_48 : decode cX11_does 48 = .ok (.getfield 322, 3) := by decide +kernel
theorem dX11_does_51 : decode cX11_does 51 = .ok (.iload_n 2, 1) := by decide +kernel
theorem dX11_does_52 : decode cX11_does 52 = .ok (.invokestatic 92, 3) := by decide +kernel
theorem dX11_does_55 : decode cX11_does 55 = .ok (.ifCond .ne 19, 3) := by decide +kernel
theorem dX11_does_58 : decode cX11_does 58 = .ok (.aload_n 0, 1) := by decide +kernel
theorem dX11_does_59 : decode cX11_does 59 = .ok (.getfield 361, 3) := by decide +kernel
theorem dX11_does_62 : decode cX11_does 62 = .ok (.aload_n 0, 1) := by decide +kernel
theorem dX11_does_63 : decode cX11_does 63 = .ok (.getfield 364, 3) := by decide +kernel
theorem dX11_does_66 : decode cX11_does 66 = .ok (.ior, 1) := by decide +kernel
theorem dX11_does_67 : decode cX11_does 67 = .ok (.iload_n 2, 1) := by decide +kernel
theorem dX11_does_68 : decode cX11_does 68 = .ok (.invokestatic 92, 3) := by decide +kernel
theorem dX11_does_71 : decode cX11_does 71 = .ok (.ifCond .ne 5, 3) := by decide +kernel
theorem dX11_does_74 : decode cX11_does 74 = .ok (.iconst 0, 1) := by decide +kernel
theorem dX11_does_75 : decode cX11_does 75 = .ok (.ireturn, 1) := by decide +kernel
theorem dX11_does_76 : decode cX11_does 76 = .ok (.aload_n 0, 1) := by decide +kernel
theorem dX11_does_77 : decode cX11_does 77 = .ok (.dup, 1) := by decide +kernel
theorem dX11_does_78 : decode cX11_does 78 = .ok (.getfield 361, 3) := by decide +kernel
theorem dX11_does_81 : decode cX11_does 81 = .ok (.iconst 1, 1) := by decide +kernel
theorem dX11_does_82 : decode cX11_does 82 = .ok (.iload_n 2, 1) := by decide +kernel
theorem dX11_does_83 : decode cX11_does 83 = .ok (.ishl, 1) := by decide +kernel
theorem dX11_does_84 : decode cX11_does 84 = .ok (.iconst (-1), 1) := by decide +kernel
theorem dX11_does_85 : decode cX11_does 85 = .ok (.ixor, 1) := by decide +kernel
theorem dX11_does_86 : decode cX11_does 86 = .ok (.iand, 1) := by decide +kernel
theorem dX11_does_87 : decode cX11_does 87 = .ok (.putfield 361, 3) := by decide +kernel
theorem dX11_does_90 : decode cX11_does 90 = .ok (.aload_n 0, 1) := by decide +kernel
theorem dX11_does_91 : decode cX11_does 91 = .ok (.dup, 1) := by decide +kernel
theorem dX11_does_92 : decode cX11_does 92 = .ok (.getfield 364, 3) := by decide +kernel
theorem dX11_does_95 : decode cX11_does 95 = .ok (.iconst 1, 1) := by decide +kernel
theorem dX11_does_96 : decode cX11_does 96 = .ok (.iload_n 2, 1) := by decide +kernel
theorem dX11_does_97 : decode cX11_does 97 = .ok (.ishl, 1) := by decide +kernel
theorem dX11_does_98 : decode cX11_does 98 = .ok (.iconst (-1), 1) := by decide +kernel
theorem dX11_does_99 : decode cX11_does 99 = .ok (.ixor, 1) := by decide +kernel
theorem dX11_does_100 : decode cX11_does 100 = .ok (.iand, 1) := by decide +kernel
theorem dX11_does_101 : decode cX11_does 101 = .ok (.putfield 364, 3) := by decide +kernel
theorem dX11_does_104 : decode cX11_does 104 = .ok (.iconst 1, 1) := by decide +kernel
theorem dX11_does_105 : decode cX11_does 105 = .ok (.ireturn, 1) := by decide +kernel
theorem dX11_does_106 : decode cX11_does 106 = .ok (.iload_n 1, 1) := by decide +kernel
theorem dX11_does_107 : decode cX11_does 107 = .ok (.ifCond .ne 10, 3) := by decide +kernel
theorem dX11_does_110 : decode cX11_does 110 = .ok (.aload_n 0, 1) := by decide +kernel
theorem dX11_does_111 : decode cX11_does 111 = .ok (.getfield 361, 3) := by decide +kernel
theorem dX11_does_114 : decode cX11_does 114 = .ok (.goto 7, 3) := by decide +kernel
theorem dX11_does_117 : decode cX11_does 117 = .ok (.aload_n 0, 1) := by decide +kernel
theorem dX11_does_118 : decode cX11_does 118 = .ok (.getfield 364, 3) := by decide +kernel
theorem dX11_does_121 : decode cX11_does 121 = .ok (.iload_n 2, 1) := by decide +kernel
theorem dX11_does_122 : decode cX11_does 122 = .ok (.invokestatic 92, 3) := by decide +kernel
theorem dX11_does_125 : decode cX11_does 125 = .ok (.ifCond .eq 5, 3) := by decide +kernel
theorem dX11_does_128 : decode cX11_does 128 = .ok (.iconst 0, 1) := by decide +kernel
theorem dX11_does_129 : decode cX11_does 129 = .ok (.ireturn, 1) := by decide +kernel
theorem dX11_does_130 : decode cX11_does 130 = .ok (.aload_n 0, 1) := by decide +kernel
theorem dX11_does_131 : decode cX11_does 131 = .ok (.dup, 1) := by decide +kernel
theorem dX11_does_132 : decode cX11_does 132 = .ok (.getfield 361, 3) := by decide +kernel
theorem dX11_does_135 : decode cX11_does 135 = .ok (.iload_n 1, 1) := by decide +kernel
theorem dX11_does_136 : decode cX11_does 136 = .ok (.ifCond .ne 9, 3) := by decide +kernel
theorem dX11_does_139 : decode cX11_does 139 = .ok (.iconst 1, 1) := by decide +kernel
theorem dX11_does_140 : decode cX11_does 140 = .ok (.iload_n 2, 1) := by decide +kernel
theorem dX11_does_141 : decode cX11_does 141 = .ok (.ishl, 1) := by decide +kernel
theorem dX11_does_142 : decode cX11_does 142 = .ok (.goto 4, 3) := by decide +kernel
theorem dX11_does_145 : decode cX11_does 145 = .ok (.iconst 0, 1) := by decide +kernel
theorem dX11_does_146 : decode cX11_does 146 = .ok (.ior, 1) := by decide +kernel
theorem dX11_does_147 : decode cX11_does 147 = .ok (.putfield 361, 3) := by decide +kernel
theorem dX11_does_150 : decode cX11_does 150 = .ok (.aload_n 0, 1) := by decide +kernel
theorem dX11_does_151 : decode cX11_does 151 = .ok (.dup, 1) := by decide +kernel
theorem dX11_does_152 : decode cX11_does 152 = .ok (.getfield 364, 3) := by decide +kernel
theorem dX11_does_155 : decode cX11_does 155 = .ok (.iload_n 1, 1) := by decide +kernel
theorem dX11_does_156 : decode cX11_does 156 = .ok (.iconst 1, 1) := by decide +kernel
theorem dX11_does_157 : decode cX11_does 157 = .ok (.if_icmp .ne 9, 3) := by decide +kernel
theorem dX11_does_160 : decode cX11_does 160 = .ok (.iconst 1, 1) := by decide +kernel
theorem dX11_does_161 : decode cX11_does 161 = .ok (.iload_n 2, 1) := by decide +kernel
theorem dX11_does_162 : decode cX11_does 162 = .ok (.ishl, 1) := by decide +kernel
theorem dX11_does_163 : decode cX11_does 163 = .ok (.goto 4, 3) := by decide +kernel
theorem dX11_does_166 : decode cX11_does 166 = .ok (.iconst 0, 1) := by decide +kernel
theorem dX11_does_167 : decode cX11_does 167 = .ok (.ior, 1) := by decide +kernel
theorem dX11_does_168 : decode cX11_does 168 = .ok (.putfield 364, 3) := by decide +kernel
theorem dX11_does_171 : decode cX11_does 171 = .ok (.aload_n 0, 1) := by decide +kernel
theorem dX11_does_172 : decode cX11_does 172 = .ok (.invokevirtual 391, 3) := by decide +kernel
theorem dX11_does_175 : decode cX11_does 175 = .ok (.aload_n 0, 1) := by decide +kernel
theorem dX11_does_176 : decode cX11_does 176 = .ok (.invokevirtual 388, 3) := by decide +kernel
theorem dX11_does_179 : decode cX11_does 179 = .ok (.iconst 1, 1) := by decide +kernel
theorem dX11_does_180 : decode cX11_does 180 = .ok (.ireturn, 1) := by decide +kernel
theorem q_1759 : Cond.methodLink RX11 391 yX11_makesWhole ∈ zTB := zmem 1759 (by decide +kernel) rfl
theorem q_1761 : Cond.instanceMethod yX11_makesWhole ∈ zTB := zmem 1761 (by decide +kernel) rfl
theorem q_86 : Cond.selects RX11 yX11_makesWhole yX11_makesWhole ∈ zTB := zmem 86 (by decide +kernel) rfl
theorem q_1762 : Cond.code yX11_makesWhole cX11_makesWhole 2 none ∈ zTB := zmem 1762 (by decide +kernel) rfl
theorem k_RX11_391 : zLv RX11 391 RX11 yX11_makesWhole cX11_makesWhole 2 none 0 := ⟨⟨q_1759, q_1761, q_86, q_140, q_1762⟩, rfl, ⟨by decide, by decide⟩, by decide +kernel⟩
theorem q_1728 : Cond.methodLink RX11 388 yX11_chooses ∈ zTB := zmem 1728 (by decide +kernel) rfl
theorem q_1730 : Cond.instanceMethod yX11_chooses ∈ zTB := zmem 1730 (by decide +kernel) rfl
theorem q_79 : Cond.selects RX11 yX11_chooses yX11_chooses ∈ zTB := zmem 79 (by decide +kernel) rfl
theorem q_1731 : Cond.code yX11_chooses cX11_chooses 5 none ∈ zTB := zmem 1731 (by decide +kernel) rfl
theorem k_RX11_388 : zLv RX11 388 RX11 yX11_chooses cX11_chooses 5 none 0 := ⟨⟨q_1728, q_1730, q_79, q_140, q_1731⟩, rfl, ⟨by decide, by decide⟩, by decide +kernel⟩
def F_X11_does (i : Nat) (X Y : Nat → Int → Int) (R : Nat → Int → Option Nat) (a : Int) (b : Int) : Prop := (∀ i j, rI (X i j)) → (∀ i j, rL (Y i j)) → ((¬ a = 3) → ((rI ((X (i) 27) - 1)) ∧ ((((mIn (b) ((1 : Int)) ((X (i) 27) - 1)) = true) → (((¬ a = 2) → (((¬ a = 0) → ((((mHas (X (i) 42) (b)) = false) → (((¬ a = 0) → (∀ X8 : Nat → Int → Int, X8 = zU X (i) 41 (zOr (X (i) 41) (0)) → (∀ i j, rI (X8 i j)) → (((¬ a = 1) → (∀ X10 : Nat → Int → Int, X10 = zU X8 (i) 42 (zOr (X8 (i) 42) (0)) → (∀ i j, rI (X10 i j)) → ((oH X10 Y i ∧ 0 ≤ X10 i 37 ∧ X10 i 37 ≤ 900) ∧ (∀ X12 : Nat → Int → Int, (∀ i j, rI (X12 i j)) → (tW X10 (X12) i ∧ ∀ t, cR X10 i (X10 i 27).toNat t → cR (X12) i (X10 i 27).toNat (csMk (rCx X10 i) t (X10 i 27).toNat)) → ((oH X12 Y i ∧ mHas (X12 i 36) 0 = true ∧ oCs (cX X12 i) (X12 i 27).toNat 100000 100000) ∧ (∀ X14 : Nat → Int → Int, (∀ i j, rI (X14 i j)) → ∀ Y15 : Nat → Int → Int, (∀ i j, rL (Y15 i j)) → ((∀ a, a ≠ i → (X14) a = X12 a) ∧ (∀ s, (s < 43 ∨ 47 < s) → (X14) i s = X12 i s) ∧ cX (X14) i = csCh (rP X12 i) (cX X12 i) (mCt X12 Y i) ∧ ∀ a, a ≠ i + 18 → (Y15) a = Y a) → (true = csOk (X i 27).toNat (cX X i) (a) (b) ∧ fK X (X14) Y (Y15) i ∧ (true = false → (X14) = X ∧ (Y15) = Y) ∧ (true = true → ∀ t, cR X i (X i 27).toNat t → cR (X14) i (X i 27).toNat (csDo (rCx X i) t (a) (b)))))))))) ∧ ((¬ (¬ a = 1)) → (∀ X16 : Nat → Int → Int, X16 = zU X8 (i) 42 (zOr (X8 (i) 42) (zShl (1) (b))) → (∀ i j, rI (X16 i j)) → ((oH X16 Y i ∧ 0 ≤ X16 i 37 ∧ X16 i 37 ≤ 900) ∧ (∀ X18 : Nat → Int → Int, (∀ i j, rI (X18 i j)) → (tW X16 (X18) i ∧ ∀ t, cR X16 i (X16 i 27).toNat t → cR (X18) i (X16 i 27).toNat (csMk (rCx X16 i) t (X16 i 27).toNat)) → ((oH X18 Y i ∧ mHas (X18 i 36) 0 = true ∧ oCs (cX X18 i) (X18 i 27).toNat 100000 100000) ∧ (∀ X20 : Nat → Int → Int, (∀ i j, rI (X20 i j)) → ∀ Y21 : Nat → Int → Int, (∀ i j, rL (Y21 i j)) → ((∀ a, a ≠ i → (X20) a = X18 a) ∧ (∀ s, (s < 43 ∨ 47 < s) → (X20) i s = X18 i s) ∧ cX (X20) i = csCh (rP X18 i) (cX X18 i) (mCt X18 Y i) ∧ ∀ a, a ≠ i + 18 → (Y21) a = Y a) → (true = csOk (X i 27).toNat (cX X i) (a) (b) ∧ fK X (X20) Y (Y21) i ∧ (true = false → (X20) = X ∧ (Y21) = Y) ∧ (true = true → ∀ t, cR X i (X i 27).toNat t → cR (X20) i (X i 27).toNat (csDo (rCx X i) t (a) (b))))))))))))) ∧ ((¬ (¬ a = 0)) → (∀ X22 : Nat → Int → Int, X22 = zU X (i) 41 (zOr (X (i) 41) (zShl (1) (b))) → (∀ i j, rI (X22 i j)) → (((¬ a = 1) → (∀ X24 : Nat → Int → Int, X24 = zU X22 (i) 42 (zOr (X22 (i) 42) (0)) → (∀ i j, rI (X24 i j)) → ((oH X24 Y i ∧ 0 ≤ X24 i 37 ∧ X24 i 37 ≤ 900) ∧ (∀ X26 : Nat → Int → Int, (∀ i j, rI (X26 i j)) → (tW X24 (X26) i ∧ ∀ t, cR X24 i (X24 i 27).toNat t → cR (X26) i (X24 i 27).toNat (csMk (rCx X24 i) t (X24 i 27).toNat)) → ((oH X26 Y i ∧ mHas (X26 i 36) 0 = true ∧ oCs (cX X26 i) (X26 i 27).toNat 100000 100000) ∧ (∀ X28 : Nat → Int → Int, (∀ i j, rI (X28 i j)) → ∀ Y29 : Nat → Int → Int, (∀ i j, rL (Y29 i j)) → ((∀ a, a ≠ i → (X28) a = X26 a) ∧ (∀ s, (s < 43 ∨ 47 < s) → (X28) i s = X26 i s) ∧ cX (X28) i = csCh (rP X26 i) (cX X26 i) (mCt X26 Y i) ∧ ∀ a, a ≠ i + 18 → (Y29) a = Y a) → (true = csOk (X i 27).toNat (cX X i) (a) (b) ∧ fK X (X28) Y (Y29) i ∧ (true = false → (X28) = X ∧ (Y29) = Y) ∧ (true = true → ∀ t, cR X i (X i 27).toNat t → cR (X28) i (X i 27).toNat (csDo (rCx X i) t (a) (b)))))))))) ∧ ((¬ (¬ a = 1)) → (∀ X30 : Nat → Int → Int, X30 = zU X22 (i) 42 (zOr (X22 (i) 42) (zShl (1) (b))) → (∀ i j, rI (X30 i j)) → ((oH X30 Y i ∧ 0 ≤ X30 i 37 ∧ X30 i 37 ≤ 900) ∧ (∀ X32 : Nat → Int → Int, (∀ i j, rI (X32 i j)) → (tW X30 (X32) i ∧ ∀ t, cR X30 i (X30 i 27).toNat t → cR (X32) i (X30 i 27).toNat (csMk (rCx X30 i) t (X30 i 27).toNat)) → ((oH X32 Y i ∧ mHas (X32 i 36) 0 = true ∧ oCs (cX X32 i) (X32 i 27).toNat 100000 100000) ∧ (∀ X34 : Nat → Int → Int, (∀ i j, rI (X34 i j)) → ∀ Y35 : Nat → Int → Int, (∀ i j, rL (Y35 i j)) → ((∀ a, a ≠ i → (X34) a = X32 a) ∧ (∀ s, (s < 43 ∨ 47 < s) → (X34) i s = X32 i s) ∧ cX (X34) i = csCh (rP X32 i) (cX X32 i) (mCt X32 Y i) ∧ ∀ a, a ≠ i + 18 → (Y35) a = Y a) → (true = csOk (X i 27).toNat (cX X i) (a) (b) ∧ fK X (X34) Y (Y35) i ∧ (true = false → (X34) = X ∧ (Y35) = Y) ∧ (true = true → ∀ t, cR X i (X i 27).toNat t → cR (X34) i (X i 27).toNat (csDo (rCx X i) t (a) (b))))))))))))))) ∧ (((mHas (X (i) 42) (b)) = true) → (false = csOk (X i 27).toNat (cX X i) (a) (b) ∧ fK X (X) Y (Y) i ∧ (false = false → (X) = X ∧ (Y) = Y) ∧ (false = true → ∀ t, cR X i (X i 27).toNat t → cR (X) i (X i 27).toNat (csDo (rCx X i) t (a) (b))))))) ∧ ((¬ (¬ a = 0)) → ((((mHas (X (i) 41) (b)) = false) → (((¬ a = 0) → (∀ X38 : Nat → Int → Int, X38 = zU X (i) 41 (zOr (X (i) 41) (0)) → (∀ i j, rI (X38 i j)) → (((¬ a = 1) → (∀ X40 : Nat → Int → Int, X40 = zU X38 (i) 42 (zOr (X38 (i) 42) (0)) → (∀ i j, rI (X40 i j)) → ((oH X40 Y i ∧ 0 ≤ X40 i 37 ∧ X40 i 37 ≤ 900) ∧ (∀ X42 : Nat → Int → Int, (∀ i j, rI (X42 i j)) → (tW X40 (X42) i ∧ ∀ t, cR X40 i (X40 i 27).toNat t → cR (X42) i (X40 i 27).toNat (csMk (rCx X40 i) t (X40 i 27).toNat)) → ((oH X42 Y i ∧ mHas (X42 i 36) 0 = true ∧ oCs (cX X42 i) (X42 i 27).toNat 100000 100000) ∧ (∀ X44 : Nat → Int → Int, (∀ i j, rI (X44 i j)) → ∀ Y45 : Nat → Int → Int, (∀ i j, rL (Y45 i j)) → ((∀ a, a ≠ i → (X44) a = X42 a) ∧ (∀ s, (s < 43 ∨ 47 < s) → (X44) i s = X42 i s) ∧ cX (X44) i = csCh (rP X42 i) (cX X42 i) (mCt X42 Y i) ∧ ∀ a, a ≠ i + 18 → (Y45) a = Y a) → (true = csOk (X i 27).toNat (cX X i) (a) (b) ∧ fK X (X44) Y (Y45) i ∧ (true = false → (X44) = X ∧ (Y45) = Y) ∧ (true = true → ∀ t, cR X i (X i 27).toNat t → cR (X44) i (X i 27).toNat (csDo (rCx X i) t (a) (b)))))))))) ∧ ((¬ (¬ a = 1)) → (∀ X46 : Nat → Int → Int, X46 = zU X38 (i) 42 (zOr (X38 (i) 42) (zShl (1) (b))) → (∀ i j, rI (X46 i j)) → ((oH X46 Y i ∧ 0 ≤ X46 i 37 ∧ X46 i 37 ≤ 900) ∧ (∀ X48 : Nat → Int → Int, (∀ i j, rI (X48 i j)) → (tW X46 (X48) i ∧ ∀ t, cR X46 i (X46 i 27).toNat t → cR (X48) i (X46 i 27).toNat (csMk (rCx X46 i) t (X46 i 27).toNat)) → ((oH X48 Y i ∧ mHas (X48 i 36) 0 = true ∧ oCs (cX X48 i) (X48 i 27).toNat 100000 100000) ∧ (∀ X50 : Nat → Int → Int, (∀ i j, rI (X50 i j)) → ∀ Y51 : Nat → Int → Int, (∀ i j, rL (Y51 i j)) → ((∀ a, a ≠ i → (X50) a = X48 a) ∧ (∀ s, (s < 43 ∨ 47 < s) → (X50) i s = X48 i s) ∧ cX (X50) i = csCh (rP X48 i) (cX X48 i) (mCt X48 Y i) ∧ ∀ a, a ≠ i + 18 → (Y51) a = Y a) → (true = csOk (X i 27).toNat (cX X i) (a) (b) ∧ fK X (X50) Y (Y51) i ∧ (true = false → (X50) = X ∧ (Y51) = Y) ∧ (true = true → ∀ t, cR X i (X i 27).toNat t → cR (X50) i (X i 27).toNat (csDo (rCx X i) t (a) (b))))))))))))) ∧ ((¬ (¬ a = 0)) → (∀ X52 : Nat → Int → Int, X52 = zU X (i) 41 (zOr (X (i) 41) (zShl (1) (b))) → (∀ i j, rI (X52 i j)) → (((¬ a = 1) → (∀ X54 : Nat → Int → Int, X54 = zU X52 (i) 42 (zOr (X52 (i) 42) (0)) → (∀ i j, rI (X54 i j)) → ((oH X54 Y i ∧ 0 ≤ X54 i 37 ∧ X54 i 37 ≤ 900) ∧ (∀ X56 : Nat → Int → Int, (∀ i j, rI (X56 i j)) → (tW X54 (X56) i ∧ ∀ t, cR X54 i (X54 i 27).toNat t → cR (X56) i (X54 i 27).toNat (csMk (rCx X54 i) t (X54 i 27).toNat)) → ((oH X56 Y i ∧ mHas (X56 i 36) 0 = true ∧ oCs (cX X56 i) (X56 i 27).toNat 100000 100000) ∧ (∀ X58 : Nat → Int → Int, (∀ i j, rI (X58 i j)) → ∀ Y59 : Nat → Int → Int, (∀ i j, rL (Y59 i j)) → ((∀ a, a ≠ i → (X58) a = X56 a) ∧ (∀ s, (s < 43 ∨ 47 < s) → (X58) i s = X56 i s) ∧ cX (X58) i = csCh (rP X56 i) (cX X56 i) (mCt X56 Y i) ∧ ∀ a, a ≠ i + 18 → (Y59) a = Y a) → (true = csOk (X i 27).toNat (cX X i) (a) (b) ∧ fK X (X58) Y (Y59) i ∧ (true = false → (X58) = X ∧ (Y59) = Y) ∧ (true = true → ∀ t, cR X i (X i 27).toNat t → cR (X58) i (X i 27).toNat (csDo (rCx X i) t (a) (b)))))))))) ∧ ((¬ (¬ a = 1)) → (∀ X60 : Nat → Int → Int, X60 = zU X52 (i) 42 (zOr (X52 (i) 42) (zShl (1) (b))) → (∀ i j, rI (X60 i j)) → ((oH X60 Y i ∧ 0 ≤ X60 i 37 ∧ X60 i 37 ≤ 900) ∧ (∀ X62 : Nat → Int → Int, (∀ i j, rI (X62 i j)) → (tW X60 (X62) i ∧ ∀ t, cR X60 i (X60 i 27).toNat t → cR (X62) i (X60 i 27).toNat (csMk (rCx X60 i) t (X60 i 27).toNat)) → ((oH X62 Y i ∧ mHas (X62 i 36) 0 = true ∧ oCs (cX X62 i) (X62 i 27).toNat 100000 100000) ∧ (∀ X64 : Nat → Int → Int, (∀ i j, rI (X64 i j)) → ∀ Y65 : Nat → Int → Int, (∀ i j, rL (Y65 i j)) → ((∀ a, a ≠ i → (X64) a = X62 a) ∧ (∀ s, (s < 43 ∨ 47 < s) → (X64) i s = X62 i s) ∧ cX (X64) i = csCh (rP X62 i) (cX X62 i) (mCt X62 Y i) ∧ ∀ a, a ≠ i + 18 → (Y65) a = Y a) → (true = csOk (X i 27).toNat (cX X i) (a) (b) ∧ fK X (X64) Y (Y65) i ∧ (true = false → (X64) = X ∧ (Y65) = Y) ∧ (true = true → ∀ t, cR X i (X i 27).toNat t → cR (X64) i (X i 27).toNat (csDo (rCx X i) t (a) (b))))))))))))))) ∧ (((mHas (X (i) 41) (b)) = true) → (false = csOk (X i 27).toNat (cX X i) (a) (b) ∧ fK X (X) Y (Y) i ∧ (false = false → (X) = X ∧ (Y) = Y) ∧ (false = true → ∀ t, cR X i (X i 27).toNat t → cR (X) i (X i 27).toNat (csDo (rCx X i) t (a) (b))))))))) ∧ ((¬ (¬ a = 2)) → ((((mHas (X (i) 36) (b)) = true) → (false = csOk (X i 27).toNat (cX X i) (a) (b) ∧ fK X (X) Y (Y) i ∧ (false = false → (X) = X ∧ (Y) = Y) ∧ (false = true → ∀ t, cR X i (X i 27).toNat t → cR (X) i (X i 27).toNat (csDo (rCx X i) t (a) (b))))) ∧ (((mHas (X (i) 36) (b)) = false) → ((((mHas (zOr (X (i) 41) (X (i) 42)) (b)) = true) → (∀ X68 : Nat → Int → Int, X68 = zU X (i) 41 (zAnd (X (i) 41) (zXor (zShl (1) (b)) ((-1)))) → (∀ i j, rI (X68 i j)) → (∀ X69 : Nat → Int → Int, X69 = zU X68 (i) 42 (zAnd (X68 (i) 42) (zXor (zShl (1) (b)) ((-1)))) → (∀ i j, rI (X69 i j)) → (true = csOk (X i 27).toNat (cX X i) (a) (b) ∧ fK X (X69) Y (Y) i ∧ (true = false → (X69) = X ∧ (Y) = Y) ∧ (true = true → ∀ t, cR X i (X i 27).toNat t → cR (X69) i (X i 27).toNat (csDo (rCx X i) t (a) (b))))))) ∧ (((mHas (zOr (X (i) 41) (X (i) 42)) (b)) = false) → (false = csOk (X i 27).toNat (cX X i) (a) (b) ∧ fK X (X) Y (Y) i ∧ (false = false → (X) = X ∧ (Y) = Y) ∧ (false = true → ∀ t, cR X i (X i 27).toNat t → cR (X) i (X i 27).toNat (csDo (rCx X i) t (a) (b))))))))))) ∧ (((mIn (b) ((1 : Int)) ((X (i) 27) - 1)) = false) → (false = csOk (X i 27).toNat (cX X i) (a) (b) ∧ fK X (X) Y (Y) i ∧ (false = false → (X) = X ∧ (Y) = Y) ∧ (false = true → ∀ t, cR X i (X i 27).toNat t → cR (X) i (X i 27).toNat (csDo (rCx X i) t (a) (b)))))))) ∧ ((¬ (¬ a = 3)) → (((¬ (X (i) 28) = b) → (∀ X71 : Nat → Int → Int, X71 = zU X (i) 28 (b) → (∀ i j, rI (X71 i j)) → ((oH X71 Y i ∧ mHas (X71 i 36) 0 = true ∧ oCs (cX X71 i) (X71 i 27).toNat 100000 100000) ∧ (∀ X73 : Nat → Int → Int, (∀ i j, rI (X73 i j)) → ∀ Y74 : Nat → Int → Int, (∀ i j, rL (Y74 i j)) → ((∀ a, a ≠ i → (X73) a = X71 a) ∧ (∀ s, (s < 43 ∨ 47 < s) → (X73) i s = X71 i s) ∧ cX (X73) i = csCh (rP X71 i) (cX X71 i) (mCt X71 Y i) ∧ ∀ a, a ≠ i + 18 → (Y74) a = Y a) → (true = csOk (X i 27).toNat (cX X i) (a) (b) ∧ fK X (X73) Y (Y74) i ∧ (true = false → (X73) = X ∧ (Y74) = Y) ∧ (true = true → ∀ t, cR X i (X i 27).toNat t → cR (X73) i (X i 27).toNat (csDo (rCx X i) t (a) (b)))))))) ∧ ((¬ (¬ (X (i) 28) = b)) → (false = csOk (X i 27).toNat (cX X i) (a) (b) ∧ fK X (X) Y (Y) i ∧ (false = false → (X) = X ∧ (Y) = Y) ∧ (false = true → ∀ t, cR X i (X i 27).toNat t → cR (X) i (X i 27).toNat (csDo (rCx X i) t (a) (b)))))))
set_option maxHeartbeats 4000000 in
set_option maxRecDepth 100000 in
theorem w_X11_does {l : Launch} {D : va_G} {cy : Nat → ClassId} {bs N : Nat} {sa : Nat → Nat} {kd len : Nat → Nat} {X Y : Nat → Int → Int} {R : Nat → Int → Option Nat} {i : Nat} (hM : zM N kd len R i) (a : Int) (ha : rI a) (b : Int) (hb : rI b) (hF : F_X11_does i X Y R a b) : Met l yX11_does (.code yX11_does cX11_does 3 (some .boolean) :: zTB) (zRm 5 113) (zPc D cy bs sa N kd len X Y R [.ref (bs + (i)), .int (zI (a)), .int (zI (b))]) (zQi D cy bs N kd len (fun r st => st.2.2 = R ∧ ∃ rb : Bool, r = bz rb ∧ (rb = csOk (X i 27).toNat (cX X i) (a) (b) ∧ fK X (st.1) Y (st.2.1) i ∧ (rb = false → (st.1) = X ∧ (st.2.1) = Y) ∧ (rb = true → ∀ t, cR X i (X i 27).toNat t → cR (st.1) i (X i 27).toNat (csDo (rCx X i) t (a) (b)))))) 0 0 (zA bs) := by
  refine zstart (by decide) (Nat.le_of_ble_eq_true rfl) ?_
  intro p e s m args below meth c ls C hE hH hr hlk hnm hl hargs
  have hF := hF hH.2.2.1 hH.2.2.2
  have hS : va_S (zA bs) s.heap s.heap [] := va_S.rf
  have hl : lv_has ls 3 [(0, .ref (bs + (i))), (1, .int (zI (a))), (2, .int (zI (b)))] := hl
  refine lv_iload_n C.1 C.2.1 dX11_does_0 rfl (lv_at hl 1 rfl) ?_
  refine zd_iconst C dX11_does_1 ?_
  refine zd_icmp_ne C ha (by decide) 26 dX11_does_2 (by decide) (fun c1 => ?_) (fun c1 => ?_)
  · have hF := hF.1 c1
    refine lv_iload_n C.1 C.2.1 dX11_does_26 rfl (lv_at hl 2 rfl) ?_
    refine zd_iconst C dX11_does_27 ?_
    refine lv_aload_n C.1 C.2.1 dX11_does_28 rfl (lv_at hl 0 rfl) ?_
    refine zg11_27 C hH (zM_n0 hM) (zM_k0 hM) q_1314 dX11_does_29 ?_
    refine zd_iconst C dX11_does_32 ?_
    refine zd_isub C dX11_does_33 ?_
    obtain ⟨o2, hF⟩ := hF
    refine zgoi (zrunS (As := [.int (zI (b)), .int (zI (1)), .int (zI ((X (i) 27) - 1))]) (rest := []) C hE hH hS hl.1 (c_X11_in (l := l)  (b) hb (1) (by decide) ((X (i) 27) - 1) o2) k_RX11_100 ⟨Nat.le_of_ble_eq_true rfl, Nat.le_of_ble_eq_true rfl⟩ rfl (Nat.le_of_ble_eq_true rfl) dX11_does_34 ⟨Nat.zero_le _, Nat.zero_le _⟩) hS (fun rq Xq Yq Rq H locs hrq hq hH hS => ?_)
    obtain ⟨h91, h92⟩ := hq
    have h93 : Xq = X := congrArg (fun z => z.1) h92
    have h94 : Yq = Y := congrArg (fun z => z.2.1) h92
    have h95 : Rq = R := congrArg (fun z => z.2.2) h92
    rw [h93, h94, h95] at hH
    subst h91
    refine zd_ifB_ne C 42 dX11_does_37 (by decide) (fun c3 => ?_) (fun c3 => ?_)
    · have hF := hF.1 c3
      refine lv_iload_n C.1 C.2.1 dX11_does_42 rfl (lv_at hl 1 rfl) ?_
      refine zd_iconst C dX11_does_43 ?_
      refine zd_icmp_ne C ha (by decide) 106 dX11_does_44 (by decide) (fun c4 => ?_) (fun c4 => ?_)
      · have hF := hF.1 c4
        refine lv_iload_n C.1 C.2.1 dX11_does_106 rfl (lv_at hl 1 rfl) ?_
        refine zd_if_ne C ha 117 dX11_does_107 (by decide) (fun c5 => ?_) (fun c5 => ?_)
        · have hF := hF.1 c5
          refine lv_aload_n C.1 C.2.1 dX11_does_117 rfl (lv_at hl 0 rfl) ?_
          refine zg11_42 C hH (zM_n0 hM) (zM_k0 hM) q_1329 dX11_does_118 ?_
          refine lv_iload_n C.1 C.2.1 dX11_does_121 rfl (lv_at hl 2 rfl) ?_
          refine zgoi (zrunS (As := [.int (zI (X (i) 42)), .int (zI (b))]) (rest := []) C hE hH hS hl.1 (c_X11_has (l := l)  (X (i) 42) (hH.2.2.1 _ _) (b) hb) k_RX11_92 ⟨Nat.le_of_ble_eq_true rfl, Nat.le_of_ble_eq_true rfl⟩ rfl (Nat.le_of_ble_eq_true rfl) dX11_does_122 ⟨Nat.zero_le _, Nat.zero_le _⟩) hS (fun rq Xq Yq Rq H locs hrq hq hH hS => ?_)
          obtain ⟨h91, h92⟩ := hq
          have h93 : Xq = X := congrArg (fun z => z.1) h92
          have h94 : Yq = Y := congrArg (fun z => z.2.1) h92
          have h95 : Rq = R := congrArg (fun z => z.2.2) h92
          rw [h93, h94, h95] at hH
          subst h91
          refine zd_ifB_eq C 130 dX11_does_125 (by decide) (fun c6 => ?_) (fun c6 => ?_)
          · have hF := hF.1 c6
            refine lv_aload_n C.1 C.2.1 dX11_does_130 rfl (lv_at hl 0 rfl) ?_
            refine lv_dup C.1 C.2.1 dX11_does_131 rfl ?_
            refine zg11_41 C hH (zM_n0 hM) (zM_k0 hM) q_1328 dX11_does_132 ?_
            refine lv_iload_n C.1 C.2.1 dX11_does_135 rfl (lv_at hl 1 rfl) ?_
            refine zd_if_ne C ha 145 dX11_does_136 (by decide) (fun c7 => ?_) (fun c7 => ?_)
            · have hF := hF.1 c7
              refine zd_iconst C dX11_does_145 ?_
              refine zd_ior C dX11_does_146 ?_
              refine zp11_41 C hH hS (zM_n0 hM) (zM_k0 hM) q_1328 (zI_rg _) dX11_does_147 (fun H locs hH hS => ?_)
              obtain ⟨X8, eX8⟩ : ∃ z, z = zU X (i) 41 (zOr (X (i) 41) (0)) := ⟨_, rfl⟩
              rw [← eX8] at hH
              have hF := hF X8 eX8 hH.2.2.1
              refine lv_aload_n C.1 C.2.1 dX11_does_150 rfl (lv_at hl 0 rfl) ?_
              refine lv_dup C.1 C.2.1 dX11_does_151 rfl ?_
              refine zg11_42 C hH (zM_n0 hM) (zM_k0 hM) q_1329 dX11_does_152 ?_
              refine lv_iload_n C.1 C.2.1 dX11_does_155 rfl (lv_at hl 1 rfl) ?_
              refine zd_iconst C dX11_does_156 ?_
              refine zd_icmp_ne C ha (by decide) 166 dX11_does_157 (by decide) (fun c9 => ?_) (fun c9 => ?_)
              · have hF := hF.1 c9
                refine zd_iconst C dX11_does_166 ?_
                refine zd_ior C dX11_does_167 ?_
                refine zp11_42 C hH hS (zM_n0 hM) (zM_k0 hM) q_1329 (zI_rg _) dX11_does_168 (fun H locs hH hS => ?_)
                obtain ⟨X10, eX10⟩ : ∃ z, z = zU X8 (i) 42 (zOr (X8 (i) 42) (0)) := ⟨_, rfl⟩
                rw [← eX10] at hH
                have hF := hF X10 eX10 hH.2.2.1
                refine lv_aload_n C.1 C.2.1 dX11_does_171 rfl (lv_at hl 0 rfl) ?_
                obtain ⟨o11, hF⟩ := hF
                refine zgov (zrunV (As := []) (rest := []) C hE hH hS hl.1 (c_X11_makesWhole (l := l) hM  o11) k_RX11_391 ⟨Nat.le_of_ble_eq_true rfl, Nat.le_of_ble_eq_true rfl⟩ (zM_n0 hM) (zM_k0 hM) rfl rfl rfl (Nat.le_of_ble_eq_true rfl) dX11_does_172 ⟨Nat.zero_le _, Nat.zero_le _⟩) hS (fun X12 Yq Rq H locs hq hH hS => ?_)
                obtain ⟨h9Y, h9R, hq⟩ := hq
                dsimp only at h9Y h9R
                rw [h9Y, h9R] at hH
                have hF := hF X12 hH.2.2.1 hq
                refine lv_aload_n C.1 C.2.1 dX11_does_175 rfl (lv_at hl 0 rfl) ?_
                obtain ⟨o13, hF⟩ := hF
                refine zgov (zrunV (As := []) (rest := []) C hE hH hS hl.1 (c_X11_chooses (l := l) hM  o13) k_RX11_388 ⟨Nat.le_of_ble_eq_true rfl, Nat.le_of_ble_eq_true rfl⟩ (zM_n0 hM) (zM_k0 hM) rfl rfl rfl (Nat.le_of_ble_eq_true rfl) dX11_does_176 ⟨Nat.zero_le _, Nat.zero_le _⟩) hS (fun X14 Y15 Rq H locs hq hH hS => ?_)
                obtain ⟨h9R, hq⟩ := hq
                dsimp only at h9R
                rw [h9R] at hH
                have hF := hF X14 hH.2.2.1 Y15 hH.2.2.2 hq
                refine zd_iconst C dX11_does_179 ?_
                exact zd_zret C hr hlk hH hS (by decide) (⟨rfl, _, rfl, hF⟩) dX11_does_180
              · have hF := hF.2 c9
                refine zd_iconst C dX11_does_160 ?_
                refine lv_iload_n C.1 C.2.1 dX11_does_161 rfl (lv_at hl 2 rfl) ?_
                refine zd_ishl C dX11_does_162 ?_
                refine lv_goto (tgt := 167) C.1 C.2.1 dX11_does_163 (by decide) ?_
                refine zd_ior C dX11_does_167 ?_
                refine zp11_42 C hH hS (zM_n0 hM) (zM_k0 hM) q_1329 (zI_rg _) dX11_does_168 (fun H locs hH hS => ?_)
                obtain ⟨X16, eX16⟩ : ∃ z, z = zU X8 (i) 42 (zOr (X8 (i) 42) (zShl (1) (b))) := ⟨_, rfl⟩
                rw [← eX16] at hH
                have hF := hF X16 eX16 hH.2.2.1
                refine lv_aload_n C.1 C.2.1 dX11_does_171 rfl (lv_at hl 0 rfl) ?_
                obtain ⟨o17, hF⟩ := hF
                refine zgov (zrunV (As := []) (rest := []) C hE hH hS hl.1 (c_X11_makesWhole (l := l) hM  o17) k_RX11_391 ⟨Nat.le_of_ble_eq_true rfl, Nat.le_of_ble_eq_true rfl⟩ (zM_n0 hM) (zM_k0 hM) rfl rfl rfl (Nat.le_of_ble_eq_true rfl) dX11_does_172 ⟨Nat.zero_le _, Nat.zero_le _⟩) hS (fun X18 Yq Rq H locs hq hH hS => ?_)
                obtain ⟨h9Y, h9R, hq⟩ := hq
                dsimp only at h9Y h9R
                rw [h9Y, h9R] at hH
                have hF := hF X18 hH.2.2.1 hq
                refine lv_aload_n C.1 C.2.1 dX11_does_175 rfl (lv_at hl 0 rfl) ?_
                obtain ⟨o19, hF⟩ := hF
                refine zgov (zrunV (As := []) (rest := []) C hE hH hS hl.1 (c_X11_chooses (l := l) hM  o19) k_RX11_388 ⟨Nat.le_of_ble_eq_true rfl, Nat.le_of_ble_eq_true rfl⟩ (zM_n0 hM) (zM_k0 hM) rfl rfl rfl (Nat.le_of_ble_eq_true rfl) dX11_does_176 ⟨Nat.zero_le _, Nat.zero_le _⟩) hS (fun X20 Y21 Rq H locs hq hH hS => ?_)
                obtain ⟨h9R, hq⟩ := hq
                dsimp only at h9R
                rw [h9R] at hH
                have hF := hF X20 hH.2.2.1 Y21 hH.2.2.2 hq
                refine zd_iconst C dX11_does_179 ?_
                exact zd_zret C hr hlk hH hS (by decide) (⟨rfl, _, rfl, hF⟩) dX11_does_180
            · have hF := hF.2 c7
              refine zd_iconst C dX11_does_139 ?_
              refine lv_iload_n C.1 C.2.1 dX11_does_140 rfl (lv_at hl 2 rfl) ?_
              refine zd_ishl C dX11_does_141 ?_
              refine lv_goto (tgt := 146) C.1 C.2.1 dX11_does_142 (by decide) ?_
              refine zd_ior C dX11_does_146 ?_
              refine zp11_41 C hH hS (zM_n0 hM) (zM_k0 hM) q_1328 (zI_rg _) dX11_does_147 (fun H locs hH hS => ?_)
              obtain ⟨X22, eX22⟩ : ∃ z, z = zU X (i) 41 (zOr (X (i) 41) (zShl (1) (b))) := ⟨_, rfl⟩
              rw [← eX22] at hH
              have hF := hF X22 eX22 hH.2.2.1
              refine lv_aload_n C.1 C.2.1 dX11_does_150 rfl (lv_at hl 0 rfl) ?_
              refine lv_dup C.1 C.2.1 dX11_does_151 rfl ?_
              refine zg11_42 C hH (zM_n0 hM) (zM_k0 hM) q_1329 dX11_does_152 ?_
              refine lv_iload_n C.1 C.2.1 dX11_does_155 rfl (lv_at hl 1 rfl) ?_
              refine zd_iconst C dX11_does_156 ?_
              refine zd_icmp_ne C ha (by decide) 166 dX11_does_157 (by decide) (fun c23 => ?_) (fun c23 => ?_)
              · have hF := hF.1 c23
                refine zd_iconst C dX11_does_166 ?_
                refine zd_ior C dX11_does_167 ?_
                refine zp11_42 C hH hS (zM_n0 hM) (zM_k0 hM) q_1329 (zI_rg _) dX11_does_168 (fun H locs hH hS => ?_)
                obtain ⟨X24, eX24⟩ : ∃ z, z = zU X22 (i) 42 (zOr (X22 (i) 42) (0)) := ⟨_, rfl⟩
                rw [← eX24] at hH
                have hF := hF X24 eX24 hH.2.2.1
                refine lv_aload_n C.1 C.2.1 dX11_does_171 rfl (lv_at hl 0 rfl) ?_
                obtain ⟨o25, hF⟩ := hF
                refine zgov (zrunV (As := []) (rest := []) C hE hH hS hl.1 (c_X11_makesWhole (l := l) hM  o25) k_RX11_391 ⟨Nat.le_of_ble_eq_true rfl, Nat.le_of_ble_eq_true rfl⟩ (zM_n0 hM) (zM_k0 hM) rfl rfl rfl (Nat.le_of_ble_eq_true rfl) dX11_does_172 ⟨Nat.zero_le _, Nat.zero_le _⟩) hS (fun X26 Yq Rq H locs hq hH hS => ?_)
                obtain ⟨h9Y, h9R, hq⟩ := hq
                dsimp only at h9Y h9R
                rw [h9Y, h9R] at hH
                have hF := hF X26 hH.2.2.1 hq
                refine lv_aload_n C.1 C.2.1 dX11_does_175 rfl (lv_at hl 0 rfl) ?_
                obtain ⟨o27, hF⟩ := hF
                refine zgov (zrunV (As := []) (rest := []) C hE hH hS hl.1 (c_X11_chooses (l := l) hM  o27) k_RX11_388 ⟨Nat.le_of_ble_eq_true rfl, Nat.le_of_ble_eq_true rfl⟩ (zM_n0 hM) (zM_k0 hM) rfl rfl rfl (Nat.le_of_ble_eq_true rfl) dX11_does_176 ⟨Nat.zero_le _, Nat.zero_le _⟩) hS (fun X28 Y29 Rq H locs hq hH hS => ?_)
                obtain ⟨h9R, hq⟩ := hq
                dsimp only at h9R
                rw [h9R] at hH
                have hF := hF X28 hH.2.2.1 Y29 hH.2.2.2 hq
                refine zd_iconst C dX11_does_179 ?_
                exact zd_zret C hr hlk hH hS (by decide) (⟨rfl, _, rfl, hF⟩) dX11_does_180
              · have hF := hF.2 c23
                refine zd_iconst C dX11_does_160 ?_
                refine lv_iload_n C.1 C.2.1 dX11_does_161 rfl (lv_at hl 2 rfl) ?_
                refine zd_ishl C dX11_does_162 ?_
                refine lv_goto (tgt := 167) C.1 C.2.1 dX11_does_163 (by decide) ?_
                refine zd_ior C dX11_does_167 ?_
                refine zp11_42 C hH hS (zM_n0 hM) (zM_k0 hM) q_1329 (zI_rg _) dX11_does_168 (fun H locs hH hS => ?_)
                obtain ⟨X30, eX30⟩ : ∃ z, z = zU X22 (i) 42 (zOr (X22 (i) 42) (zShl (1) (b))) := ⟨_, rfl⟩
                rw [← eX30] at hH
                have hF := hF X30 eX30 hH.2.2.1
                refine lv_aload_n C.1 C.2.1 dX11_does_171 rfl (lv_at hl 0 rfl) ?_
                obtain ⟨o31, hF⟩ := hF
                refine zgov (zrunV (As := []) (rest := []) C hE hH hS hl.1 (c_X11_makesWhole (l := l) hM  o31) k_RX11_391 ⟨Nat.le_of_ble_eq_true rfl, Nat.le_of_ble_eq_true rfl⟩ (zM_n0 hM) (zM_k0 hM) rfl rfl rfl (Nat.le_of_ble_eq_true rfl) dX11_does_172 ⟨Nat.zero_le _, Nat.zero_le _⟩) hS (fun X32 Yq Rq H locs hq hH hS => ?_)
                obtain ⟨h9Y, h9R, hq⟩ := hq
                dsimp only at h9Y h9R
                rw [h9Y, h9R] at hH
                have hF := hF X32 hH.2.2.1 hq
                refine lv_aload_n C.1 C.2.1 dX11_does_175 rfl (lv_at hl 0 rfl) ?_
                obtain ⟨o33, hF⟩ := hF
                refine zgov (zrunV (As := []) (rest := []) C hE hH hS hl.1 (c_X11_chooses (l := l) hM  o33) k_RX11_388 ⟨Nat.le_of_ble_eq_true rfl, Nat.le_of_ble_eq_true rfl⟩ (zM_n0 hM) (zM_k0 hM) rfl rfl rfl (Nat.le_of_ble_eq_true rfl) dX11_does_176 ⟨Nat.zero_le _, Nat.zero_le _⟩) hS (fun X34 Y35 Rq H locs hq hH hS => ?_)
                obtain ⟨h9R, hq⟩ := hq
                dsimp only at h9R
                rw [h9R] at hH
                have hF := hF X34 hH.2.2.1 Y35 hH.2.2.2 hq
                refine zd_iconst C dX11_does_179 ?_
                exact zd_zret C hr hlk hH hS (by decide) (⟨rfl, _, rfl, hF⟩) dX11_does_180
          · have hF := hF.2 c6
            refine zd_iconst C dX11_does_128 ?_
            exact zd_zret C hr hlk hH hS (by decide) (⟨rfl, _, rfl, hF⟩) dX11_does_129
        · have hF := hF.2 c5
          refine lv_aload_n C.1 C.2.1 dX11_does_110 rfl (lv_at hl 0 rfl) ?_
          refine zg11_41 C hH (zM_n0 hM) (zM_k0 hM) q_1328 dX11_does_111 ?_
          refine lv_goto (tgt := 121) C.1 C.2.1 dX11_does_114 (by decide) ?_
          refine lv_iload_n C.1 C.2.1 dX11_does_121 rfl (lv_at hl 2 rfl) ?_
          refine zgoi (zrunS (As := [.int (zI (X (i) 41)), .int (zI (b))]) (rest := []) C hE hH hS hl.1 (c_X11_has (l := l)  (X (i) 41) (hH.2.2.1 _ _) (b) hb) k_RX11_92 ⟨Nat.le_of_ble_eq_true rfl, Nat.le_of_ble_eq_true rfl⟩ rfl (Nat.le_of_ble_eq_true rfl) dX11_does_122 ⟨Nat.zero_le _, Nat.zero_le _⟩) hS (fun rq Xq Yq Rq H locs hrq hq hH hS => ?_)
          obtain ⟨h91, h92⟩ := hq
          have h93 : Xq = X := congrArg (fun z => z.1) h92
          have h94 : Yq = Y := congrArg (fun z => z.2.1) h92
          have h95 : Rq = R := congrArg (fun z => z.2.2) h92
          rw [h93, h94, h95] at hH
          subst h91
          refine zd_ifB_eq C 130 dX11_does_125 (by decide) (fun c36 => ?_) (fun c36 => ?_)
          · have hF := hF.1 c36
            refine lv_aload_n C.1 C.2.1 dX11_does_130 rfl (lv_at hl 0 rfl) ?_
            refine lv_dup C.1 C.2.1 dX11_does_131 rfl ?_
            refine zg11_41 C hH (zM_n0 hM) (zM_k0 hM) q_1328 dX11_does_132 ?_
            refine lv_iload_n C.1 C.2.1 dX11_does_135 rfl (lv_at hl 1 rfl) ?_
            refine zd_if_ne C ha 145 dX11_does_136 (by decide) (fun c37 => ?_) (fun c37 => ?_)
            · have hF := hF.1 c37
              refine zd_iconst C dX11_does_145 ?_
              refine zd_ior C dX11_does_146 ?_
              refine zp11_41 C hH hS (zM_n0 hM) (zM_k0 hM) q_1328 (zI_rg _) dX11_does_147 (fun H locs hH hS => ?_)
              obtain ⟨X38, eX38⟩ : ∃ z, z = zU X (i) 41 (zOr (X (i) 41) (0)) := ⟨_, rfl⟩
              rw [← eX38] at hH
              have hF := hF X38 eX38 hH.2.2.1
              refine lv_aload_n C.1 C.2.1 dX11_does_150 rfl (lv_at hl 0 rfl) ?_
              refine lv_dup C.1 C.2.1 dX11_does_151 rfl ?_
              refine zg11_42 C hH (zM_n0 hM) (zM_k0 hM) q_1329 dX11_does_152 ?_
              refine lv_iload_n C.1 C.2.1 dX11_does_155 rfl (lv_at hl 1 rfl) ?_
              refine zd_iconst C dX11_does_156 ?_
              refine zd_icmp_ne C ha (by decide) 166 dX11_does_157 (by decide) (fun c39 => ?_) (fun c39 => ?_)
              · have hF := hF.1 c39
                refine zd_iconst C dX11_does_166 ?_
                refine zd_ior C dX11_does_167 ?_
                refine zp11_42 C hH hS (zM_n0 hM) (zM_k0 hM) q_1329 (zI_rg _) dX11_does_168 (fun H locs hH hS => ?_)
                obtain ⟨X40, eX40⟩ : ∃ z, z = zU X38 (i) 42 (zOr (X38 (i) 42) (0)) := ⟨_, rfl⟩
                rw [← eX40] at hH
                have hF := hF X40 eX40 hH.2.2.1
                refine lv_aload_n C.1 C.2.1 dX11_does_171 rfl (lv_at hl 0 rfl) ?_
                obtain ⟨o41, hF⟩ := hF
                refine zgov (zrunV (As := []) (rest := []) C hE hH hS hl.1 (c_X11_makesWhole (l := l) hM  o41) k_RX11_391 ⟨Nat.le_of_ble_eq_true rfl, Nat.le_of_ble_eq_true rfl⟩ (zM_n0 hM) (zM_k0 hM) rfl rfl rfl (Nat.le_of_ble_eq_true rfl) dX11_does_172 ⟨Nat.zero_le _, Nat.zero_le _⟩) hS (fun X42 Yq Rq H locs hq hH hS => ?_)
                obtain ⟨h9Y, h9R, hq⟩ := hq
                dsimp only at h9Y h9R
                rw [h9Y, h9R] at hH
                have hF := hF X42 hH.2.2.1 hq
                refine lv_aload_n C.1 C.2.1 dX11_does_175 rfl (lv_at hl 0 rfl) ?_
                obtain ⟨o43, hF⟩ := hF
                refine zgov (zrunV (As := []) (rest := []) C hE hH hS hl.1 (c_X11_chooses (l := l) hM  o43) k_RX11_388 ⟨Nat.le_of_ble_eq_true rfl, Nat.le_of_ble_eq_true rfl⟩ (zM_n0 hM) (zM_k0 hM) rfl rfl rfl (Nat.le_of_ble_eq_true rfl) dX11_does_176 ⟨Nat.zero_le _, Nat.zero_le _⟩) hS (fun X44 Y45 Rq H locs hq hH hS => ?_)
                obtain ⟨h9R, hq⟩ := hq
                dsimp only at h9R
                rw [h9R] at hH
                have hF := hF X44 hH.2.2.1 Y45 hH.2.2.2 hq
                refine zd_iconst C dX11_does_179 ?_
                exact zd_zret C hr hlk hH hS (by decide) (⟨rfl, _, rfl, hF⟩) dX11_does_180
              · have hF := hF.2 c39
                refine zd_iconst C dX11_does_160 ?_
                refine lv_iload_n C.1 C.2.1 dX11_does_161 rfl (lv_at hl 2 rfl) ?_
                refine zd_ishl C dX11_does_162 ?_
                refine lv_goto (tgt := 167) C.1 C.2.1 dX11_does_163 (by decide) ?_
                refine zd_ior C dX11_does_167 ?_
                refine zp11_42 C hH hS (zM_n0 hM) (zM_k0 hM) q_1329 (zI_rg _) dX11_does_168 (fun H locs hH hS => ?_)
                obtain ⟨X46, eX46⟩ : ∃ z, z = zU X38 (i) 42 (zOr (X38 (i) 42) (zShl (1) (b))) := ⟨_, rfl⟩
                rw [← eX46] at hH
                have hF := hF X46 eX46 hH.2.2.1
                refine lv_aload_n C.1 C.2.1 dX11_does_171 rfl (lv_at hl 0 rfl) ?_
                obtain ⟨o47, hF⟩ := hF
                refine zgov (zrunV (As := []) (rest := []) C hE hH hS hl.1 (c_X11_makesWhole (l := l) hM  o47) k_RX11_391 ⟨Nat.le_of_ble_eq_true rfl, Nat.le_of_ble_eq_true rfl⟩ (zM_n0 hM) (zM_k0 hM) rfl rfl rfl (Nat.le_of_ble_eq_true rfl) dX11_does_172 ⟨Nat.zero_le _, Nat.zero_le _⟩) hS (fun X48 Yq Rq H locs hq hH hS => ?_)
                obtain ⟨h9Y, h9R, hq⟩ := hq
                dsimp only at h9Y h9R
                rw [h9Y, h9R] at hH
                have hF := hF X48 hH.2.2.1 hq
                refine lv_aload_n C.1 C.2.1 dX11_does_175 rfl (lv_at hl 0 rfl) ?_
                obtain ⟨o49, hF⟩ := hF
                refine zgov (zrunV (As := []) (rest := []) C hE hH hS hl.1 (c_X11_chooses (l := l) hM  o49) k_RX11_388 ⟨Nat.le_of_ble_eq_true rfl, Nat.le_of_ble_eq_true rfl⟩ (zM_n0 hM) (zM_k0 hM) rfl rfl rfl (Nat.le_of_ble_eq_true rfl) dX11_does_176 ⟨Nat.zero_le _, Nat.zero_le _⟩) hS (fun X50 Y51 Rq H locs hq hH hS => ?_)
                obtain ⟨h9R, hq⟩ := hq
                dsimp only at h9R
                rw [h9R] at hH
                have hF := hF X50 hH.2.2.1 Y51 hH.2.2.2 hq
                refine zd_iconst C dX11_does_179 ?_
                exact zd_zret C hr hlk hH hS (by decide) (⟨rfl, _, rfl, hF⟩) dX11_does_180
            · have hF := hF.2 c37
              refine zd_iconst C dX11_does_139 ?_
              refine lv_iload_n C.1 C.2.1 dX11_does_140 rfl (lv_at hl 2 rfl) ?_
              refine zd_ishl C dX11_does_141 ?_
              refine lv_goto (tgt := 146) C.1 C.2.1 dX11_does_142 (by decide) ?_
              refine zd_ior C dX11_does_146 ?_
              refine zp11_41 C hH hS (zM_n0 hM) (zM_k0 hM) q_1328 (zI_rg _) dX11_does_147 (fun H locs hH hS => ?_)
              obtain ⟨X52, eX52⟩ : ∃ z, z = zU X (i) 41 (zOr (X (i) 41) (zShl (1) (b))) := ⟨_, rfl⟩
              rw [← eX52] at hH
              have hF := hF X52 eX52 hH.2.2.1
              refine lv_aload_n C.1 C.2.1 dX11_does_150 rfl (lv_at hl 0 rfl) ?_
              refine lv_dup C.1 C.2.1 dX11_does_151 rfl ?_
              refine zg11_42 C hH (zM_n0 hM) (zM_k0 hM) q_1329 dX11_does_152 ?_
              refine lv_iload_n C.1 C.2.1 dX11_does_155 rfl (lv_at hl 1 rfl) ?_
              refine zd_iconst C dX11_does_156 ?_
              refine zd_icmp_ne C ha (by decide) 166 dX11_does_157 (by decide) (fun c53 => ?_) (fun c53 => ?_)
              · have hF := hF.1 c53
                refine zd_iconst C dX11_does_166 ?_
                refine zd_ior C dX11_does_167 ?_
                refine zp11_42 C hH hS (zM_n0 hM) (zM_k0 hM) q_1329 (zI_rg _) dX11_does_168 (fun H locs hH hS => ?_)
                obtain ⟨X54, eX54⟩ : ∃ z, z = zU X52 (i) 42 (zOr (X52 (i) 42) (0)) := ⟨_, rfl⟩
                rw [← eX54] at hH
                have hF := hF X54 eX54 hH.2.2.1
                refine lv_aload_n C.1 C.2.1 dX11_does_171 rfl (lv_at hl 0 rfl) ?_
                obtain ⟨o55, hF⟩ := hF
                refine zgov (zrunV (As := []) (rest := []) C hE hH hS hl.1 (c_X11_makesWhole (l := l) hM  o55) k_RX11_391 ⟨Nat.le_of_ble_eq_true rfl, Nat.le_of_ble_eq_true rfl⟩ (zM_n0 hM) (zM_k0 hM) rfl rfl rfl (Nat.le_of_ble_eq_true rfl) dX11_does_172 ⟨Nat.zero_le _, Nat.zero_le _⟩) hS (fun X56 Yq Rq H locs hq hH hS => ?_)
                obtain ⟨h9Y, h9R, hq⟩ := hq
                dsimp only at h9Y h9R
                rw [h9Y, h9R] at hH
                have hF := hF X56 hH.2.2.1 hq
                refine lv_aload_n C.1 C.2.1 dX11_does_175 rfl (lv_at hl 0 rfl) ?_
                obtain ⟨o57, hF⟩ := hF
                refine zgov (zrunV (As := []) (rest := []) C hE hH hS hl.1 (c_X11_chooses (l := l) hM  o57) k_RX11_388 ⟨Nat.le_of_ble_eq_true rfl, Nat.le_of_ble_eq_true rfl⟩ (zM_n0 hM) (zM_k0 hM) rfl rfl rfl (Nat.le_of_ble_eq_true rfl) dX11_does_176 ⟨Nat.zero_le _, Nat.zero_le _⟩) hS (fun X58 Y59 Rq H locs hq hH hS => ?_)
                obtain ⟨h9R, hq⟩ := hq
                dsimp only at h9R
                rw [h9R] at hH
                have hF := hF X58 hH.2.2.1 Y59 hH.2.2.2 hq
                refine zd_iconst C dX11_does_179 ?_
                exact zd_zret C hr hlk hH hS (by decide) (⟨rfl, _, rfl, hF⟩) dX11_does_180
              · have hF := hF.2 c53
                refine zd_iconst C dX11_does_160 ?_
                refine lv_iload_n C.1 C.2.1 dX11_does_161 rfl (lv_at hl 2 rfl) ?_
                refine zd_ishl C dX11_does_162 ?_
                refine lv_goto (tgt := 167) C.1 C.2.1 dX11_does_163 (by decide) ?_
                refine zd_ior C dX11_does_167 ?_
                refine zp11_42 C hH hS (zM_n0 hM) (zM_k0 hM) q_1329 (zI_rg _) dX11_does_168 (fun H locs hH hS => ?_)
                obtain ⟨X60, eX60⟩ : ∃ z, z = zU X52 (i) 42 (zOr (X52 (i) 42) (zShl (1) (b))) := ⟨_, rfl⟩
                rw [← eX60] at hH
                have hF := hF X60 eX60 hH.2.2.1
                refine lv_aload_n C.1 C.2.1 dX11_does_171 rfl (lv_at hl 0 rfl) ?_
                obtain ⟨o61, hF⟩ := hF
                refine zgov (zrunV (As := []) (rest := []) C hE hH hS hl.1 (c_X11_makesWhole (l := l) hM  o61) k_RX11_391 ⟨Nat.le_of_ble_eq_true rfl, Nat.le_of_ble_eq_true rfl⟩ (zM_n0 hM) (zM_k0 hM) rfl rfl rfl (Nat.le_of_ble_eq_true rfl) dX11_does_172 ⟨Nat.zero_le _, Nat.zero_le _⟩) hS (fun X62 Yq Rq H locs hq hH hS => ?_)
                obtain ⟨h9Y, h9R, hq⟩ := hq
                dsimp only at h9Y h9R
                rw [h9Y, h9R] at hH
                have hF := hF X62 hH.2.2.1 hq
                refine lv_aload_n C.1 C.2.1 dX11_does_175 rfl (lv_at hl 0 rfl) ?_
                obtain ⟨o63, hF⟩ := hF
                refine zgov (zrunV (As := []) (rest := []) C hE hH hS hl.1 (c_X11_chooses (l := l) hM  o63) k_RX11_388 ⟨Nat.le_of_ble_eq_true rfl, Nat.le_of_ble_eq_true rfl⟩ (zM_n0 hM) (zM_k0 hM) rfl rfl rfl (Nat.le_of_ble_eq_true rfl) dX11_does_176 ⟨Nat.zero_le _, Nat.zero_le _⟩) hS (fun X64 Y65 Rq H locs hq hH hS => ?_)
                obtain ⟨h9R, hq⟩ := hq
                dsimp only at h9R
                rw [h9R] at hH
                have hF := hF X64 hH.2.2.1 Y65 hH.2.2.2 hq
                refine zd_iconst C dX11_does_179 ?_
                exact zd_zret C hr hlk hH hS (by decide) (⟨rfl, _, rfl, hF⟩) dX11_does_180
          · have hF := hF.2 c36
            refine zd_iconst C dX11_does_128 ?_
            exact zd_zret C hr hlk hH hS (by decide) (⟨rfl, _, rfl, hF⟩) dX11_does_129
      · have hF := hF.2 c4
        refine lv_aload_n C.1 C.2.1 dX11_does_47 rfl (lv_at hl 0 rfl) ?_
        refine zg11_36 C hH (zM_n0 hM) (zM_k0 hM) q_1323 dX11_does_48 ?_
        refine lv_iload_n C.1 C.2.1 dX11_does_51 rfl (lv_at hl 2 rfl) ?_
        refine zgoi (zrunS (As := [.int (zI (X (i) 36)), .int (zI (b))]) (rest := []) C hE hH hS hl.1 (c_X11_has (l := l)  (X (i) 36) (hH.2.2.1 _ _) (b) hb) k_RX11_92 ⟨Nat.le_of_ble_eq_true rfl, Nat.le_of_ble_eq_true rfl⟩ rfl (Nat.le_of_ble_eq_true rfl) dX11_does_52 ⟨Nat.zero_le _, Nat.zero_le _⟩) hS (fun rq Xq Yq Rq H locs hrq hq hH hS => ?_)
        obtain ⟨h91, h92⟩ := hq
        have h93 : Xq = X := congrArg (fun z => z.1) h92
        have h94 : Yq = Y := congrArg (fun z => z.2.1) h92
        have h95 : Rq = R := congrArg (fun z => z.2.2) h92
        rw [h93, h94, h95] at hH
        subst h91
        refine zd_ifB_ne C 74 dX11_does_55 (by decide) (fun c66 => ?_) (fun c66 => ?_)
        · have hF := hF.1 c66
          refine zd_iconst C dX11_does_74 ?_
          exact zd_zret C hr hlk hH hS (by decide) (⟨rfl, _, rfl, hF⟩) dX11_does_75
        · have hF := hF.2 c66
          refine lv_aload_n C.1 C.2.1 dX11_does_58 rfl (lv_at hl 0 rfl) ?_
          refine zg11_41 C hH (zM_n0 hM) (zM_k0 hM) q_1328 dX11_does_59 ?_
          refine lv_aload_n C.1 C.2.1 dX11_does_62 rfl (lv_at hl 0 rfl) ?_
          refine zg11_42 C hH (zM_n0 hM) (zM_k0 hM) q_1329 dX11_does_63 ?_
          refine zd_ior C dX11_does_66 ?_
          refine lv_iload_n C.1 C.2.1 dX11_does_67 rfl (lv_at hl 2 rfl) ?_
          refine zgoi (zrunS (As := [.int (zI (zOr (X (i) 41) (X (i) 42))), .int (zI (b))]) (rest := []) C hE hH hS hl.1 (c_X11_has (l := l)  (zOr (X (i) 41) (X (i) 42)) (zI_rg _) (b) hb) k_RX11_92 ⟨Nat.le_of_ble_eq_true rfl, Nat.le_of_ble_eq_true rfl⟩ rfl (Nat.le_of_ble_eq_true rfl) dX11_does_68 ⟨Nat.zero_le _, Nat.zero_le _⟩) hS (fun rq Xq Yq Rq H locs hrq hq hH hS => ?_)
          obtain ⟨h91, h92⟩ := hq
          have h93 : Xq = X := congrArg (fun z => z.1) h92
          have h94 : Yq = Y := congrArg (fun z => z.2.1) h92
          have h95 : Rq = R := congrArg (fun z => z.2.2) h92
          rw [h93, h94, h95] at hH
          subst h91
          refine zd_ifB_ne C 76 dX11_does_71 (by decide) (fun c67 => ?_) (fun c67 => ?_)
          · have hF := hF.1 c67
            refine lv_aload_n C.1 C.2.1 dX11_does_76 rfl (lv_at hl 0 rfl) ?_
            refine lv_dup C.1 C.2.1 dX11_does_77 rfl ?_
            refine zg11_41 C hH (zM_n0 hM) (zM_k0 hM) q_1328 dX11_does_78 ?_
            refine zd_iconst C dX11_does_81 ?_
            refine lv_iload_n C.1 C.2.1 dX11_does_82 rfl (lv_at hl 2 rfl) ?_
            refine zd_ishl C dX11_does_83 ?_
            refine zd_iconst C dX11_does_84 ?_
            refine zd_ixor C dX11_does_85 ?_
            refine zd_iand C dX11_does_86 ?_
            refine zp11_41 C hH hS (zM_n0 hM) (zM_k0 hM) q_1328 (zI_rg _) dX11_does_87 (fun H locs hH hS => ?_)
            obtain ⟨X68, eX68⟩ : ∃ z, z = zU X (i) 41 (zAnd (X (i) 41) (zXor (zShl (1) (b)) ((-1)))) := ⟨_, rfl⟩
            rw [← eX68] at hH
            have hF := hF X68 eX68 hH.2.2.1
            refine lv_aload_n C.1 C.2.1 dX11_does_90 rfl (lv_at hl 0 rfl) ?_
            refine lv_dup C.1 C.2.1 dX11_does_91 rfl ?_
            refine zg11_42 C hH (zM_n0 hM) (zM_k0 hM) q_1329 dX11_does_92 ?_
            refine zd_iconst C dX11_does_95 ?_
            refine lv_iload_n C.1 C.2.1 dX11_does_96 rfl (lv_at hl 2 rfl) ?_
            refine zd_ishl C dX11_does_97 ?_
            refine zd_iconst C dX11_does_98 ?_
            refine zd_ixor C dX11_does_99 ?_
            refine zd_iand C dX11_does_100 ?_
            refine zp11_42 C hH hS (zM_n0 hM) (zM_k0 hM) q_1329 (zI_rg _) dX11_does_101 (fun H locs hH hS => ?_)
            obtain ⟨X69, eX69⟩ : ∃ z, z = zU X68 (i) 42 (zAnd (X68 (i) 42) (zXor (zShl (1) (b)) ((-1)))) := ⟨_, rfl⟩
            rw [← eX69] at hH
            have hF := hF X69 eX69 hH.2.2.1
            refine zd_iconst C dX11_does_104 ?_
            exact zd_zret C hr hlk hH hS (by decide) (⟨rfl, _, rfl, hF⟩) dX11_does_105
          · have hF := hF.2 c67
            refine zd_iconst C dX11_does_74 ?_
            exact zd_zret C hr hlk hH hS (by decide) (⟨rfl, _, rfl, hF⟩) dX11_does_75
    · have hF := hF.2 c3
      refine zd_iconst C dX11_does_40 ?_
      exact zd_zret C hr hlk hH hS (by decide) (⟨rfl, _, rfl, hF⟩) dX11_does_41
  · have hF := hF.2 c1
    refine lv_aload_n C.1 C.2.1 dX11_does_5 rfl (lv_at hl 0 rfl) ?_
    refine zg11_28 C hH (zM_n0 hM) (zM_k0 hM) q_1315 dX11_does_6 ?_
    refine lv_iload_n C.1 C.2.1 dX11_does_9 rfl (lv_at hl 2 rfl) ?_
    refine zd_icmp_ne C (hH.2.2.1 _ _) hb 15 dX11_does_10 (by decide) (fun c70 => ?_) (fun c70 => ?_)
    · have hF := hF.1 c70
      refine lv_aload_n C.1 C.2.1 dX11_does_15 rfl (lv_at hl 0 rfl) ?_
      refine lv_iload_n C.1 C.2.1 dX11_does_16 rfl (lv_at hl 2 rfl) ?_
      refine zp11_28 C hH hS (zM_n0 hM) (zM_k0 hM) q_1315 hb dX11_does_17 (fun H locs hH hS => ?_)
      obtain ⟨X71, eX71⟩ : ∃ z, z = zU X (i) 28 (b) := ⟨_, rfl⟩
      rw [← eX71] at hH
      have hF := hF X71 eX71 hH.2.2.1
      refine lv_aload_n C.1 C.2.1 dX11_does_20 rfl (lv_at hl 0 rfl) ?_
      obtain ⟨o72, hF⟩ := hF
      refine zgov (zrunV (As := []) (rest := []) C hE hH hS hl.1 (c_X11_chooses (l := l) hM  o72) k_RX11_388 ⟨Nat.le_of_ble_eq_true rfl, Nat.le_of_ble_eq_true rfl⟩ (zM_n0 hM) (zM_k0 hM) rfl rfl rfl (Nat.le_of_ble_eq_true rfl) dX11_does_21 ⟨Nat.zero_le _, Nat.zero_le _⟩) hS (fun X73 Y74 Rq H locs hq hH hS => ?_)
      obtain ⟨h9R, hq⟩ := hq
      dsimp only at h9R
      rw [h9R] at hH
      have hF := hF X73 hH.2.2.1 Y74 hH.2.2.2 hq
      refine zd_iconst C dX11_does_24 ?_
      exact zd_zret C hr hlk hH hS (by decide) (⟨rfl, _, rfl, hF⟩) dX11_does_25
    · have hF := hF.2 c70
      refine zd_iconst C dX11_does_13 ?_
      exact zd_zret C hr hlk hH hS (by decide) (⟨rfl, _, rfl, hF⟩) dX11_does_14
theorem v_X11_does {X Y : Nat → Int → Int} {R : Nat → Int → Option Nat} {i : Nat} (a : Int) (ha : rI a) (b : Int) (hb : rI b) (hp : oH X Y i ∧ oCS (cX X i, kX X i) (X i 27).toNat 900 900 ∧ (0 ≤ a ∧ a ≤ 3) ∧ (a = 3 → 0 ≤ b ∧ b ≤ 1) ∧ (a ≠ 3 → 1 ≤ b ∧ b ≤ 14)) : F_X11_does i X Y R a b := by
  unfold F_X11_does
  intro hX hY
  obtain ⟨h, hc, ha, hb3, hb⟩ := hp
  have h27 := h.1.2.2.1
  have en : (((X i 27).toNat : Nat) : Int) = X i 27 := by omega
  have ff : ∀ {x : Bool}, false = x → (false = x ∧ fK X X Y Y i ∧ (false = false → X = X ∧ Y = Y) ∧ (false = true → ∀ t, cR X i (X i 27).toNat t → cR X i (X i 27).toNat (csDo (rCx X i) t a b))) := fun e => ⟨e, fK.rf, fun _ => ⟨rfl, rfl⟩, fun q => by cases q⟩
  refine ⟨fun c3 => ⟨⟨by omega, by omega⟩, fun cm => ?_, fun cm => ff ?_⟩, fun c3 => ?_⟩
  · refine ⟨fun c2 => ⟨fun c0 => ⟨fun ch => ⟨fun _ X8 e8 r8 => ⟨fun c1 => ?_, fun c1 X16 e16 r16 => ?_⟩, fun q => absurd c0 q⟩, fun ch => ff ?_⟩, fun c0 => ⟨fun ch => ⟨fun q => absurd q c0, fun _ X52 e52 r52 => ⟨fun c1 X54 e54 r54 => ?_, fun c1 => ?_⟩⟩, fun ch => ff ?_⟩⟩, fun c2 => ⟨fun ch => ff ?_, fun ch => ⟨fun cq X68 e68 r68 X69 e69 r69 => ?_, fun cq => ff ?_⟩⟩⟩
    · omega
    · have u := fun X12 X14 Y15 => do_hb (X10 := X16) (X12 := X12) (X14 := X14) (Y15 := Y15) (a := a) (b := b) (g1 := 0) (g2 := zShl 1 b) h hc c3 c2 (by rw [if_neg c0]) (by rw [if_pos (by omega)]) (by rw [e16, e8, zU_n (by omega)])
      refine ⟨(u X X Y).1, fun X12 _ hm => ⟨((u X12 X Y).2 hm).1, fun X14 _ Y15 _ hq => ?_⟩⟩
      have v := ((u X12 X14 Y15).2 hm).2 hq
      refine ⟨?_, v.1, fun q => (by cases q), fun _ => v.2⟩
      unfold csOk
      rw [if_neg c3, if_neg c2, if_neg c0, en, cm]
      show true = (true && !mHas (X i 42) b)
      rw [ch]
      rfl
    · unfold csOk
      rw [if_neg c3, if_neg c2, if_neg c0, en, cm]
      show false = (true && !mHas (X i 42) b)
      rw [ch]
      rfl
    · have u := fun X12 X14 Y15 => do_hb (X10 := X54) (X12 := X12) (X14 := X14) (Y15 := Y15) (a := a) (b := b) (g1 := zShl 1 b) (g2 := 0) h hc c3 c2 (by rw [if_pos (by omega)]) (by rw [if_neg c1]) (by rw [e54, e52, zU_n (by omega)])
      refine ⟨(u X X Y).1, fun X12 _ hm => ⟨((u X12 X Y).2 hm).1, fun X14 _ Y15 _ hq => ?_⟩⟩
      have v := ((u X12 X14 Y15).2 hm).2 hq
      refine ⟨?_, v.1, fun q => (by cases q), fun _ => v.2⟩
      unfold csOk
      rw [if_neg c3, if_neg c2, if_pos (by omega), en, cm]
      show true = (true && !mHas (X i 41) b)
      rw [ch]
      rfl
    · omega
    · unfold csOk
      rw [if_neg c3, if_neg c2, if_pos (by omega), en, cm]
      show false = (true && !mHas (X i 41) b)
      rw [ch]
      rfl
    · unfold csOk
      rw [if_neg c3, if_pos (by omega), en, cm]
      show false = (true && (!mHas (X i 36) b && _))
      rw [ch]
      rfl
    · refine ⟨?_, ?_, fun q => (by cases q), fun _ t ht => ?_⟩
      · unfold csOk
        rw [if_neg c3, if_pos (by omega), en, cm]
        show true = (true && (!mHas (X i 36) b && mHas (zOr (X i 41) (X i 42)) b))
        rw [ch, cq]
        rfl
      · rw [e69, e68]
        exact ⟨fun z g1 g2 => by rw [zU_o g1, zU_o g1], fun s hs => by rw [zU_n (by omega), zU_n (by omega)], fun _ _ => rfl⟩
      · have u1 : X i 41 = t.1 1 := congrFun ht.1 1
        have u2 : X i 42 = t.1 2 := congrFun ht.1 2
        unfold csDo
        rw [if_neg c3, if_pos (by omega)]
        refine ⟨?_, fun j hj hw => ?_⟩
        · rw [e69, cX_42, e68, cX_41, zU_n (by omega), ht.1, u1, u2]
        · rw [e69, zU_o (by omega), e68, zU_o (by omega)]
          exact ht.2 j hj hw
    · unfold csOk
      rw [if_neg c3, if_pos (by omega), en, cm]
      show false = (true && (!mHas (X i 36) b && mHas (zOr (X i 41) (X i 42)) b))
      rw [ch, cq]
      rfl
  · unfold csOk
    rw [if_neg c3, en, cm, Bool.false_and]
  · have c3 : a = 3 := by omega
    refine ⟨fun c X71 e71 r71 => ?_, fun c => ff ?_⟩
    · have f1 : fK X X71 Y Y i := by
        rw [e71]
        exact ⟨fun z g1 g2 => by rw [zU_o g1], fun s hs => by rw [zU_n (by omega)], fun _ _ => rfl⟩
      have s28 : X71 i 28 = b := by rw [e71, zU_s]
      have s27 : X71 i 27 = X i 27 := f1.2.1 _ (by omega)
      have s36 : X71 i 36 = X i 36 := by rw [e71, zU_n (by omega)]
      have k : ∀ t, cR X i (X i 27).toNat t → cR X71 i (X i 27).toNat (cU t.1 0 b, t.2) := fun t ht => by
        refine ⟨?_, fun j hj hw => ?_⟩
        · rw [e71, cX_28, ht.1]
        · rw [e71, zU_o (by omega)]
          exact ht.2 j hj hw
      have own := k (cX X i, kX X i) ⟨rfl, fun _ _ _ => rfl⟩
      have w0 : mHas (X i 36) 0 = true := hc.2.1
      refine ⟨⟨oH_f f1 (by rw [s28]; exact hb3 c3) h, by rw [s36]; exact w0, ?_⟩, fun X73 r73 Y74 r74 hq => ?_⟩
      · rw [s27, own.1]
        exact oCs_up (by decide) (by decide) hc.1
      · have dc := do_ch (t := (cU (cX X i) 0 b, kX X i)) (n := (X i 27).toNat) (by rw [s27]) (by omega) w0 own hq
        refine ⟨?_, f1.tr dc.1, fun q => (by cases q), fun _ t ht => ?_⟩
        · unfold csOk
          rw [if_pos c3]
          exact (decide_eq_true c).symm
        · have w1 : mHas (t.1 3) 0 = true := by
            rw [← congrFun ht.1 3]
            exact hc.2.1
          have q := (do_ch (t := (cU t.1 0 b, t.2)) (n := (X i 27).toNat) (by rw [s27]) (by omega) w1 (k t ht) hq).2
          rw [rCx_t f1] at q
          unfold csDo
          rw [if_pos c3]
          exact q
    · unfold csOk
      rw [if_pos c3]
      exact (decide_eq_false c).symm
theorem c_X11_does {l : Launch} {D : va_G} {cy : Nat → ClassId} {bs N : Nat} {sa : Nat → Nat} {kd len : Nat → Nat} {X Y : Nat → Int → Int} {R : Nat → Int → Option Nat} {i : Nat} (hM : zM N kd len R i) (a : Int) (ha : rI a) (b : Int) (hb : rI b) (hp : oH X Y i ∧ oCS (cX X i, kX X i) (X i 27).toNat 900 900 ∧ (0 ≤ a ∧ a ≤ 3) ∧ (a = 3 → 0 ≤ b ∧ b ≤ 1) ∧ (a ≠ 3 → 1 ≤ b ∧ b ≤ 14)) : Met l yX11_does (.code yX11_does cX11_does 3 (some .boolean) :: zTB) (zRm 5 113) (zPc D cy bs sa N kd len X Y R [.ref (bs + (i)), .int (zI (a)), .int (zI (b))]) (zQi D cy bs N kd len (fun r st => st.2.2 = R ∧ ∃ rb : Bool, r = bz rb ∧ (rb = csOk (X i 27).toNat (cX X i) (a) (b) ∧ fK X (st.1) Y (st.2.1) i ∧ (rb = false → (st.1) = X ∧ (st.2.1) = Y) ∧ (rb = true → ∀ t, cR X i (X i 27).toNat t → cR (st.1) i (X i 27).toNat (csDo (rCx X i) t (a) (b)))))) 0 0 (zA bs) := w_X11_does hM a ha b hb (v_X11_does a ha b hb hp)
