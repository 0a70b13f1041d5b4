/-! ALL LAWS GONE THROUGH -/
section LWZ
variable {Z : Nat → Int → Int} {q : Nat} {e : Int}
theorem lwZ_o {z : Nat} (h : z ≠ q) : lwZ Z q e z = Z z := by
  unfold lwZ
  rw [zU_o h, zU_o h, zU_o h]
theorem lwZ_n {s : Int} (h : s < 28 ∨ 30 < s) : lwZ Z q e q s = Z q s := by
  unfold lwZ
  rw [zU_n (by omega), zU_n (by omega), zU_n (by omega)]
theorem lwZ_s : lwZ Z q e q 28 = e.tdiv 20 ∧ lwZ Z q e q 29 = (e.tdiv 10).tmod 2 ∧ lwZ Z q e q 30 = e.tmod 10 := by
  unfold lwZ
  exact ⟨by rw [zU_n (by omega), zU_n (by omega), zU_s], by rw [zU_n (by omega), zU_s], zU_s⟩
theorem lw_all : (oA Z q → oA (lwZ Z q e) q) ∧ (∀ m, oBs Z q m → oBs (lwZ Z q e) q m) ∧ (∀ t, mG (lwZ Z q e) q t = mG Z q t) ∧ (∀ k w, mC (lwZ Z q e) q k w = mC Z q k w) := lw_ok (lwZ_o (by omega)) (lwZ_o (by omega)) (lwZ_n (by omega)) (lwZ_n (by omega)) (lwZ_n (by omega))
theorem lw_rP : rP (lwZ Z q e) q = rP Z q := funext fun k => by
  unfold rP
  rw [lw_all.2.2.2]
theorem lw_vZ (h : vZ Z q) : vZ (lwZ Z q e) q := by
  unfold vZ at h ⊢
  rw [lwZ_n (s := 27) (by omega)]
  exact ⟨h.1, lw_all.2.1 _ h.2⟩
theorem lw_vN (he : 1 ≤ e.tmod 10 ∧ e.tmod 10 ≤ 9) (h : vN Z q) : vN (lwZ Z q e) q := by
  obtain ⟨⟨h1, h2, h3, h4⟩, h5⟩ := h
  refine ⟨⟨?_, by rw [lwZ_s.2.2]; exact he, by rw [lw_all.2.2.1]; exact h3, by rw [lw_all.2.2.1]; exact h4⟩, lw_all.1 h5⟩
  show 0 ≤ lwZ Z q e q 24 ∧ lwZ Z q e q 24 ≤ 1
  rw [lwZ_n (by omega)]
  exact h1
theorem lw_nR {X : Nat → Int → Int} {d : Nat} (h : nR Z q X d) : nR (lwZ Z q e) q X d := by
  unfold nR
  rw [lw_all.2.2.1, lw_all.2.2.1, lw_all.2.2.1, lwZ_n (s := 26) (by omega)]
  refine ⟨h.1, h.2.1, h.2.2.1, h.2.2.2.1, fun a a0 a1 => ?_⟩
  rw [lw_all.2.2.1]
  exact h.2.2.2.2 a a0 a1
theorem lw_bR {X : Nat → Int → Int} {b : Nat} (h : bR Z q X b) : bR (lwZ Z q e) q X b := by
  unfold bR
  rw [lwZ_n (s := 27) (by omega)]
  refine ⟨h.1, h.2.1, fun k k1 k2 => ?_⟩
  rw [lw_all.2.2.2, lw_all.2.2.2, lw_all.2.2.2, lw_all.2.2.2]
  have g := h.2.2 k k1 k2
  refine ⟨g.1, g.2.1, g.2.2.1, g.2.2.2.1, fun j w j0 j1 w0 w1 => ?_⟩
  rw [lw_all.2.2.2]
  exact g.2.2.2.2 j w j0 j1 w0 w1
theorem lw_dR {X : Nat → Int → Int} {R : Nat → Int → Option Nat} {i : Nat} (h : dR Z q X R i) : dR (lwZ Z q e) q X R i := by
  obtain ⟨⟨h1, h2⟩, h3, ⟨h4, h5⟩, h6⟩ := h
  refine ⟨⟨lw_vZ h1, h2⟩, by rw [lwZ_n (s := 27) (by omega)]; exact h3, ⟨lw_bR h4, h5⟩, fun k hk => ?_⟩
  rw [lw_rP]
  exact h6 k (by rw [lwZ_n (s := 27) (by omega)] at hk; exact hk)
theorem lw_fd : fW (lwZ Z q e) q = fW Z q ∧ fV (lwZ Z q e) q = fV Z q ∧ mDn (lwZ Z q e) q = mDn Z q := by
  refine ⟨funext fun k => ?_, funext fun k => ?_, ?_⟩
  · unfold fW mDd
    rw [lwZ_o (by omega), lwZ_n (by omega)]
  · unfold fV mDd
    rw [lwZ_o (by omega), lwZ_n (by omega)]
  · unfold mDn
    rw [lwZ_o (by omega), lwZ_n (by omega)]
theorem lw_feR {X : Nat → Int → Int} {j nn : Nat} (h : feR Z q X j nn) : feR (lwZ Z q e) q X j nn := by
  unfold feR
  rw [lw_fd.1, lw_fd.2.1, lw_fd.2.2]
  exact h
end LWZ
theorem dR_m {Z : Nat → Int → Int} {q : Nat} {X X1 : Nat → Int → Int} {R R1 : Nat → Int → Option Nat} {i : Nat} (h2 : X1 i 2 = X i 2) (o : ∀ z, z ≠ i → z < i + 12 → X1 z = X z) (hR : R1 i 1 = R i 1) (d : dR Z q X R i) : dR Z q X1 R1 i := by
  have hc : cb R1 i = cb R i := by
    unfold cb
    rw [hR]
  obtain ⟨⟨d0, d1⟩, d2, ⟨d3, d4⟩, d5⟩ := d
  unfold dR
  rw [hc]
  refine ⟨⟨d0, ?_⟩, by rw [h2]; exact d2, ⟨?_, d4⟩, fun k hk => ?_⟩
  · unfold chI
    rw [o (i + 9) (by omega) (by omega), o (i + 11) (by omega) (by omega)]
    exact d1
  · unfold bR
    rw [o (cb R i) (by omega) (by omega), o (cb R i + 1) (by omega) (by omega), o (cb R i + 2) (by omega) (by omega), o (cb R i + 3) (by omega) (by omega), o (cb R i + 4) (by omega) (by omega), o (cb R i + 5) (by omega) (by omega)]
    exact d3
  · rw [o (i + 9) (by omega) (by omega), o (i + 10) (by omega) (by omega), o (i + 11) (by omega) (by omega)]
    exact d5 k hk
/-- the laws in their order -/
def phN (x : Nat) : Nat := 20 * (x / 18) + 10 * (x / 9 % 2) + x % 9 + 1
def phI (k : Int) : Int := 20 * (k.tdiv 9).tdiv 2 + 10 * (k.tdiv 9).tmod 2 + (k.tmod 9 + 1)
theorem ph_1 : ∀ x : Nat, x < 36 → phI x = phN x ∧ phN x < 40 ∧ (1 ≤ phN x % 10) ∧ (phI x).tmod 10 = (x : Int).tmod 9 + 1 ∧ ((phI x).tdiv 10).tmod 2 = ((x : Int).tdiv 9).tmod 2 ∧ (phI x).tdiv 20 = ((x : Int).tdiv 9).tdiv 2 ∧ (phN (x + 1) = phN x + 1 ∨ (phN (x + 1) = phN x + 2 ∧ (phN x + 1) % 10 = 0)) := by decide +kernel
theorem lwF_z {Z : Nat → Int → Int} {q w : Nat} (h : w % 10 = 0) : lwF Z q w = false := lwF_m (by
  have e : (w : Int).tmod 10 = ((w % 10 : Nat) : Int) := rfl
  omega)
/-- the laws below n that fit are told -/
def lsR (Z : Nat → Int → Int) (q : Nat) (X : Nat → Int → Int) (i n : Nat) : Prop := X (i + 49) 5 = cN (lwF Z q) n ∧ ∀ w : Nat, w < n → lwF Z q w = true → ∃ k : Nat, (k : Int) = cN (lwF Z q) w ∧ X (i + 88) k = w ∧ ∀ y : Nat, y ≤ 40 → X (i + 51 + k) y = lwT Z q w y
abbrev zSv (N : Nat) (kd len : Nat → Nat) (R : Nat → Int → Option Nat) (i j jb jf nf jl nl : Nat) : Prop := zLaws N kd len R i ∧ zNet N kd len R j ∧ zBlocks N kd len R jb ∧ zRows N kd len R jf nf ∧ zRows N kd len R jl nl
theorem zLaws_V {N : Nat} {kd len : Nat → Nat} {R R1 : Nat → Int → Option Nat} {i : Nat} (h : zLaws N kd len R i) (e : ∀ z, z ≠ i → R1 z = R z) (hc : zChart N kd len R1 i) : zLaws N kd len R1 i := by
  obtain ⟨h1, h2, h3, h4, h5, h6, h7, h8, h9⟩ := h
  refine ⟨?_, h2, h3, by rw [e _ (by omega)]; exact h4, by rw [e _ (by omega)]; exact h5, by rw [e (i + 49) (by omega)]; exact h6, by rw [e (i + 49) (by omega)]; exact h7, by rw [e (i + 49) (by omega)]; exact h8, fun z z0 z1 => by rw [e _ (by omega)]; exact h9 z z0 z1⟩
  exact ⟨hc, h1.2.1, h1.2.2.1, h1.2.2.2.1, h1.2.2.2.2.1, by rw [e (i + 47) (by omega)]; exact h1.2.2.2.2.2.1, by rw [e (i + 47) (by omega)]; exact h1.2.2.2.2.2.2⟩
section SV
variable {N : Nat} {kd len : Nat → Nat} {R R1 : Nat → Int → Option Nat} {i j jb jf nf jl nl : Nat}
theorem zSv_e (h : zSv N kd len R i j jb jf nf jl nl) (e : ∀ z, z ≠ i → R1 z = R z) (hc : zChart N kd len R1 i) : zSv N kd len R1 i j jb jf nf jl nl := by
  obtain ⟨h1, h2, h3, h4, h5⟩ := h
  have k1 : kd i = 1 := zChart_k0 h1.1.1
  refine ⟨zLaws_V h1 e hc, zNet_U h2 (e _ fun q => ?_), zBlocks_U h3 (e _ fun q => ?_), zRows_U h4 (e _ fun q => ?_), zRows_U h5 (e _ fun q => ?_)⟩
  · have := zNet_k0 h2
    rw [q] at this
    omega
  · have := zBlocks_k0 h3
    rw [q] at this
    omega
  · have := zRows_k0 h4
    rw [q] at this
    omega
  · have := zRows_k0 h5
    rw [q] at this
    omega
theorem zSv_B (h : zSv N kd len R i j jb jf nf jl nl) (e : R1 = zU R i 1 (some jb)) : zSv N kd len R1 i j jb jf nf jl nl := zSv_e h (fun z hz => by rw [e, zU_o hz]) (zChart_putB h.1.1.1 e h.2.2.1).1
theorem zSv_N (h : zSv N kd len R i j jb jf nf jl nl) (e : R1 = zU R i 0 (some j)) : zSv N kd len R1 i j jb jf nf jl nl := zSv_e h (fun z hz => by rw [e, zU_o hz]) (zChart_putN h.1.1.1 e h.2.1).1
theorem zSv_R {R2 : Nat → Int → Option Nat} (h : zSv N kd len R1 i j jb jf nf jl nl) (e : R2 = R1 ∨ R2 = zU R1 i 0 (some j)) : zSv N kd len R2 i j jb jf nf jl nl := by
  rcases e with e | e
  · rw [e]
    exact h
  · exact zSv_N h e
end SV
theorem cN_mono {f : Nat → Bool} {a : Nat} : ∀ d, cN f a ≤ cN f (a + d)
  | 0 => Int.le_refl _
  | d + 1 => by
    have := cN_mono (f := f) (a := a) d
    show _ ≤ cN f (a + d) + (if f (a + d) then 1 else 0)
    split <;> omega
theorem cN_lt {f : Nat → Bool} {w n : Nat} (hw : w < n) (h : f w = true) : cN f w < cN f n := by
  have g := cN_mono (f := f) (a := w + 1) (n - (w + 1))
  rw [show w + 1 + (n - (w + 1)) = n by omega, cN_y h] at g
  omega
theorem cN_ph {Z : Nat → Int → Int} {q x : Nat} (hx : x < 36) : cN (lwF Z q) (phN (x + 1)) = cN (lwF Z q) (phN x) + (if lwF Z q (phN x) then 1 else 0) := by
  rcases (ph_1 x hx).2.2.2.2.2.2 with e | e
  · rw [e]
    rfl
  · rw [e.1]
    show cN (lwF Z q) (phN x + 1) + (if lwF Z q (phN x + 1) then 1 else 0) = _
    rw [lwF_z e.2]
    exact Int.add_zero _
theorem ph_w {Z : Nat → Int → Int} {q x w : Nat} (hx : x < 36) (hw : w < phN (x + 1)) (hf : lwF Z q w = true) : w < phN x ∨ w = phN x := by
  rcases (ph_1 x hx).2.2.2.2.2.2 with e | e
  · omega
  · by_cases g : w = phN x + 1
    · rw [g, lwF_z e.2] at hf
      exact absurd hf (by decide)
    · omega
theorem lsR_n {Z : Nat → Int → Int} {q : Nat} {X X1 : Nat → Int → Int} {i x m : Nat} (hx : x < 36) (h : lsR Z q X i (phN x)) (hf : lwF Z q (phN x) = false) (hm : cN (lwF Z q) (phN x) = m) (e5 : X1 (i + 49) 5 = m) (e88 : ∀ k : Nat, k < m → X1 (i + 88) k = X (i + 88) k) (et : ∀ k : Nat, k < m → X1 (i + 51 + k) = X (i + 51 + k)) : lsR Z q X1 i (phN (x + 1)) := by
  refine ⟨by rw [cN_ph hx, hf, e5, hm]; exact (Int.add_zero _).symm, fun w hw hfw => ?_⟩
  rcases ph_w hx hw hfw with g | g
  · obtain ⟨k, k1, k2, k3⟩ := h.2 w g hfw
    have := cN_lt g hfw
    exact ⟨k, k1, by rw [e88 k (by omega)]; exact k2, fun y hy => by rw [et k (by omega)]; exact k3 y hy⟩
  · rw [g, hf] at hfw
    exact absurd hfw (by decide)
theorem lsR_y {Z : Nat → Int → Int} {q : Nat} {X X1 : Nat → Int → Int} {i x m : Nat} (hx : x < 36) (h : lsR Z q X i (phN x)) (hf : lwF Z q (phN x) = true) (hm : cN (lwF Z q) (phN x) = m) (e5 : X1 (i + 49) 5 = m + 1) (e8 : X1 (i + 88) m = phN x) (ey : ∀ y : Nat, y ≤ 40 → X1 (i + 51 + m) y = lwT Z q (phN x) y) (e88 : ∀ k : Nat, k < m → X1 (i + 88) k = X (i + 88) k) (et : ∀ k : Nat, k < m → X1 (i + 51 + k) = X (i + 51 + k)) : lsR Z q X1 i (phN (x + 1)) := by
  refine ⟨by rw [cN_ph hx, hf, e5, hm]; rfl, fun w hw hfw => ?_⟩
  rcases ph_w hx hw hfw with g | g
  · obtain ⟨k, k1, k2, k3⟩ := h.2 w g hfw
    have := cN_lt g hfw
    exact ⟨k, k1, by rw [e88 k (by omega)]; exact k2, fun y hy => by rw [et k (by omega)]; exact k3 y hy⟩
  · exact ⟨m, by rw [g]; exact hm.symm, by rw [g]; exact e8, fun y hy => by rw [g]; exact ey y hy⟩
theorem zU_2 {α : Type} {X : Nat → Int → α} {i : Nat} {s : Int} {v w : α} : zU (zU X i s v) i s w = zU X i s w := by
  funext a b
  unfold zU
  split <;> rfl
abbrev cX4_survey : ByteArray := prog_6_method_2_code
def yX4_survey : MethodName := ⟨RX4, "survey", "(LWorkChains$Net;LWorkChains$Blocks;LWorkChains$Rows;LWorkChains$Rows;)V"⟩
theorem dX4_survey_0 : decode cX4_survey 0 = .ok (.aload_n 0, 1) := by decide +kernel
theorem dX4_survey_1 : decode cX4_survey 1 = .ok (.iconst 0, 1) := by decide +kernel
theorem dX4_survey_2 : decode cX4_survey 2 = .ok (.putfield 31, 3) := by decide +kernel
theorem dX4_survey_5 : decode cX4_survey 5 = .ok (.aload_n 0, 1) := by decide +kernel
theorem dX4_survey_6 : decode cX4_survey 6 = .ok (.getfield 23, 3) := by decide +kernel
theorem dX4_survey_9 : decode cX4_survey 9 = .ok (.aload_n 2, 1) := by decide +kernel
theorem dX4_survey_10 : decode cX4_survey 10 = .ok (.invokevirtual 35, 3) := by decide +kernel
theorem dX4_survey_13 : decode cX4_survey 13 = .ok (.iconst 0, 1) := by decide +kernel
theorem dX4_survey_14 : decode cX4_survey 14 = .ok (.istore 5, 2) := by decide +kernel
theorem dX4_survey_16 : decode cX4_survey 16 = .ok (.iload 5, 2) := by decide +kernel
theorem dX4_survey_18 : decode cX4_survey 18 = .ok (.bipush 36, 2) := by decide +kernel
theorem dX4_survey_20 : decode cX4_survey 20 = .ok (.if_icmp .ge 140, 3) := by decide +kernel
theorem dX4_survey_23 : decode cX4_survey 23 = .ok (.aload_n 0, 1) := by decide +kernel
theorem dX4_survey_24 : decode cX4_survey 24 = .ok (.getfield 31, 3) := by decide +kernel
theorem dX4_survey_27 : decode cX4_survey 27 = .ok (.bipush 36, 2) := by decide +kernel
theorem dX4_survey_29 : decode cX4_survey 29 = .ok (.if_icmp .ge 131, 3) := by decide +kernel
theorem dX4_survey_32 : decode cX4_survey 32 = .ok (.iload 5, 2) := by decide +kernel
theorem dX4_survey_34 : decode cX4_survey 34 = .ok (.bipush 9, 2) := by decide +kernel
theorem dX4_survey_36 : decode cX4_survey 36 = .ok (.irem, 1) := by decide +kernel
theorem dX4_survey_37 : decode cX4_survey 37 = .ok (.iconst 1, 1) := by decide +kernel
theorem dX4_survey_38 : decode cX4_survey 38 = .ok (.iadd, 1) := by decide +kernel
theorem dX4_survey_39 : decode cX4_survey 39 = .ok (.istore 6, 2) := by decide +kernel
theorem dX4_survey_41 : decode cX4_survey 41 = .ok (.iload 5, 2) := by decide +kernel
theorem dX4_survey_43 : decode cX4_survey 43 = .ok (.bipush 9, 2) := by decide +kernel
theorem dX4_survey_45 : decode cX4_survey 45 = .ok (.idiv, 1) := by decide +kernel
theorem dX4_survey_46 : decode cX4_survey 46 = .ok (.iconst 2, 1) := by decide +kernel
theorem dX4_survey_47 : decode cX4_survey 47 = .ok (.irem, 1) := by decide +kernel
theorem dX4_survey_48 : decode cX4_survey 48 = .ok (.istore 7, 2) := by decide +kernel
theorem dX4_survey_50 : decode cX4_survey 50 = .ok (.iload 5, 2) := by decide +kernel
theorem dX4_survey_52 : decode cX4_survey 52 = .ok (.bipush 9, 2) := by decide +kernel
theorem dX4_survey_54 : decode cX4_survey 54 = .ok (.idiv, 1) := by decide +kernel
theorem dX4_survey_55 : decode cX4_survey 55 = .ok (.iconst 2, 1) := by decide +kernel
theorem dX4_survey_56 : decode cX4_survey 56 = .ok (.idiv, 1) := by decide +kernel
theorem dX4_survey_57 : decode cX4_survey 57 = .ok (.istore 8, 2) := by decide +kernel
theorem dX4_survey_59 : decode cX4_survey 59 = .ok (.aload_n 0, 1) := by decide +kernel
theorem dX4_survey_60 : decode cX4_survey 60 = .ok (.getfield 23, 3) := by decide +kernel
theorem dX4_survey_63 : decode cX4_survey 63 = .ok (.aload_n 1, 1) := by decide +kernel
theorem dX4_survey_64 : decode cX4_survey 64 = .ok (.iload 6, 2) := by decide +kernel
theorem dX4_survey_66 : decode cX4_survey 66 = .ok (.invokevirtual 41, 3) := by decide +kernel
theorem dX4_survey_69 : decode cX4_survey 69 = .ok (.aload_n 0, 1) := by decide +kernel
theorem dX4_survey_70 : decode cX4_survey 70 = .ok (.getfield 23, 3) := by decide +kernel
theorem dX4_survey_73 : decode cX4_survey 73 = .ok (.invokevirtual 45, 3) := by decide +kernel
theorem dX4_survey_76 : decode cX4_survey 76 = .ok (.aload_n 0, 1) := by decide +kernel
theorem dX4_survey_77 : decode cX4_survey 77 = .ok (.getfield 27, 3) := by decide +kernel
theorem dX4_survey_80 : decode cX4_survey 80 = .ok (.iload 8, 2) := by decide +kernel
theorem dX4_survey_82 : decode cX4_survey 82 = .ok (.iload 7, 2) := by decide +kernel
theorem dX4_survey_84 : decode cX4_survey 84 = .ok (.invokevirtual 48, 3) := by decide +kernel
theorem dX4_survey_87 : decode cX4_survey 87 = .ok (.aload_n 0, 1) := by decide +kernel
theorem dX4_survey_88 : decode cX4_survey 88 = .ok (.aload_n 3, 1) := by decide +kernel
theorem dX4_survey_89 : decode cX4_survey 89 = .ok (.aload_n 0, 1) := by decide +kernel
theorem dX4_survey_90 : decode cX4_survey 90 = .ok (.getfield 11, 3) := by decide +kernel
theorem dX4_survey_93 : decode cX4_survey 93 = .ok (.aload_n 0, 1) := by decide +kernel
theorem dX4_survey_94 : decode cX4_survey 94 = .ok (.getfield 31, 3) := by decide +kernel
theorem dX4_survey_97 : decode cX4_survey 97 = .ok (.aaload, 1) := by decide +kernel
theorem dX4_survey_98 : decode cX4_survey 98 = .ok (.invokevirtual 54, 3) := by decide +kernel
theorem dX4_survey_101 : decode cX4_survey 101 = .ok (.aload 4, 2) := by decide +kernel
theorem dX4_survey_103 : decode cX4_survey 103 = .ok (.aload_n 0, 1) := by decide +kernel
theorem dX4_survey_104 : decode cX4_survey 104 = .ok (.getfield 11, 3) := by decide +kernel
theorem dX4_survey_107 : decode cX4_survey 107 = .ok (.aload_n 0, 1) := by decide +kernel
theorem dX4_survey_108 : decode cX4_survey 108 = .ok (.getfield 31, 3) := by decide +kernel
theorem dX4_survey_111 : decode cX4_survey 111 = .ok (.aaload, 1) := by decide +kernel
theorem dX4_survey_112 : decode cX4_survey 112 = .ok (.invokestatic 58, 3) := by decide +kernel
theorem dX4_survey_115 : decode cX4_survey 115 = .ok (.ifCond .ne 6, 3) := by decide +kernel
theorem dX4_survey_118 : decode cX4_survey 118 = .ok (.goto 36, 3) := by decide +kernel
theorem dX4_survey_121 : decode cX4_survey 121 = .ok (.aload_n 0, 1) := by decide +kernel
theorem dX4_survey_122 : decode cX4_survey 122 = .ok (.getfield 20, 3) := by decide +kernel
theorem dX4_survey_125 : decode cX4_survey 125 = .ok (.aload_n 0, 1) := by decide +kernel
theorem dX4_survey_126 : decode cX4_survey 126 = .ok (.getfield 31, 3) := by decide +kernel
theorem dX4_survey_129 : decode cX4_survey 129 = .ok (.bipush 20, 2) := by decide +kernel
theorem dX4_survey_131 : decode cX4_survey 131 = .ok (.iload 8, 2) := by decide +kernel
theorem dX4_survey_133 : decode cX4_survey 133 = .ok (.imul, 1) := by decide +kernel
theorem dX4_survey_134 : decode cX4_survey 134 = .ok (.bipush 10, 2) := by decide +kernel
theorem dX4_survey_136 : decode cX4_survey 136 = .ok (.iload 7, 2) := by decide +kernel
theorem dX4_survey_138 : decode cX4_survey 138 = .ok (.imul, 1) := by decide +kernel
theorem dX4_survey_139 : decode cX4_survey 139 = .ok (.iadd, 1) := by decide +kernel
theorem dX4_survey_140 : decode cX4_survey 140 = .ok (.iload 6, 2) := by decide +kernel
theorem dX4_survey_142 : decode cX4_survey 142 = .ok (.iadd, 1) := by decide +kernel
theorem dX4_survey_143 : decode cX4_survey 143 = .ok (.iastore, 1) := by decide +kernel
theorem dX4_survey_144 : decode cX4_survey 144 = .ok (.aload_n 0, 1) := by decide +kernel
theorem dX4_survey_145 : decode cX4_survey 145 = .ok (.dup, 1) := by decide +kernel
theorem dX4_survey_146 : decode cX4_survey 146 = .ok (.getfield 31, 3) := by decide +kernel
theorem dX4_survey_149 : decode cX4_survey 149 = .ok (.iconst 1, 1) := by decide +kernel
theorem dX4_survey_150 : decode cX4_survey 150 = .ok (.iadd, 1) := by decide +kernel
theorem dX4_survey_151 : decode cX4_survey 151 = .ok (.putfield 31, 3) := by decide +kernel
theorem dX4_survey_154 : decode cX4_survey 154 = .ok (.iinc 5 1, 3) := by decide +kernel
theorem dX4_survey_157 : decode cX4_survey 157 = .ok (.goto (-141), 3) := by decide +kernel
theorem dX4_survey_160 : decode cX4_survey 160 = .ok (.return_, 1) := by decide +kernel
theorem q_514 : Cond.fieldLink RX4 23 RX4 "chart" "LWorkChains$Chart;" ∈ zTB := zmem 514 (by decide +kernel) rfl
theorem q_1250 : Cond.methodLink RX4 35 yX1_draw ∈ zTB := zmem 1250 (by decide +kernel) rfl
theorem k_RX4_35 : zLv RX4 35 RX1 yX1_draw cX1_draw 4 none 1 := ⟨⟨q_1250, q_898, q_899, q_135, q_900⟩, rfl, ⟨by decide, by decide⟩, by decide +kernel⟩
theorem q_1251 : Cond.methodLink RX4 41 yX1_weigh ∈ zTB := zmem 1251 (by decide +kernel) rfl
theorem k_RX4_41 : zLv RX4 41 RX1 yX1_weigh cX1_weigh 6 none 2 := ⟨⟨q_1251, q_904, q_905, q_135, q_906⟩, rfl, ⟨by decide, by decide⟩, by decide +kernel⟩
theorem q_1252 : Cond.methodLink RX4 45 yX1_judge ∈ zTB := zmem 1252 (by decide +kernel) rfl
theorem k_RX4_45 : zLv RX4 45 RX1 yX1_judge cX1_judge 3 none 0 := ⟨⟨q_1252, q_923, q_924, q_135, q_925⟩, rfl, ⟨by decide, by decide⟩, by decide +kernel⟩
theorem q_1253 : Cond.methodLink RX4 48 yX2_begin ∈ zTB := zmem 1253 (by decide +kernel) rfl
theorem k_RX4_48 : zLv RX4 48 RX2 yX2_begin cX2_begin 3 none 2 := ⟨⟨q_1253, q_957, q_958, q_137, q_959⟩, rfl, ⟨by decide, by decide⟩, by decide +kernel⟩
theorem q_1254 : Cond.methodLink RX4 54 yX4_goThrough ∈ zTB := zmem 1254 (by decide +kernel) rfl
theorem q_1256 : Cond.instanceMethod yX4_goThrough ∈ zTB := zmem 1256 (by decide +kernel) rfl
theorem q_31 : Cond.selects RX4 yX4_goThrough yX4_goThrough ∈ zTB := zmem 31 (by decide +kernel) rfl
theorem q_1257 : Cond.code yX4_goThrough cX4_goThrough 5 none ∈ zTB := zmem 1257 (by decide +kernel) rfl
theorem k_RX4_54 : zLv RX4 54 RX4 yX4_goThrough cX4_goThrough 5 none 2 := ⟨⟨q_1254, q_1256, q_31, q_138, q_1257⟩, rfl, ⟨by decide, by decide⟩, by decide +kernel⟩
theorem q_1261 : Cond.static yX4_isSo ∈ zTB := zmem 1261 (by decide +kernel) rfl
theorem q_1262 : Cond.code yX4_isSo cX4_isSo 4 (some .boolean) ∈ zTB := zmem 1262 (by decide +kernel) rfl
theorem q_1260 : Cond.methodLink RX4 58 yX4_isSo ∈ zTB := zmem 1260 (by decide +kernel) rfl
theorem k_RX4_58 : zLs RX4 58 yX4_isSo cX4_isSo 4 (some .boolean) 2 := ⟨⟨q_1260, q_1261, q_138, q_1262⟩, ⟨by decide, by decide⟩, by decide +kernel⟩
def F_X4_survey (i : Nat) (Z : Nat → Int → Int) (q j jb jf nf jl nl : Nat) (X Y : Nat → Int → Int) (R : Nat → Int → Option Nat)  : Prop := (∀ i j, rI (X i j)) → (∀ i j, rL (Y i j)) → ∀ X1 : Nat → Int → Int, X1 = zU X (i + 49) 5 (0) → (∀ i j, rI (X1 i j)) → ((((vZ Z q ∧ chI X1 i) ∧ bR Z q X1 jb) ∧ jb + 5 < i) ∧ (∀ X3 : Nat → Int → Int, (∀ i j, rI (X3 i j)) → ∀ R4 : Nat → Int → Option Nat, ((R4 = zU R i 1 (some jb)) ∧ dR Z q (X3) (R4) i ∧ (∀ z, z ≠ i → z ≠ i + 9 → z ≠ i + 10 → z ≠ i + 11 → (X3) z = X1 z) ∧ X3 i 3 = 0) → (((R4 = R4 ∨ R4 = zU R4 i 0 (some j)) ∧ ∃ x : Nat, (0 : Int) = x ∧ x ≤ 36 ∧ (0 < x → R4 = zU R4 i 0 (some j)) ∧ (∀ z, (z < i ∨ i + 88 < z) → X3 z = X z) ∧ dR Z q X3 R4 i ∧ lsR Z q X3 i (phN x) ∧ cN (lwF Z q) (phN x) ≤ x) ∧ (∀ (k : Int) (X6 : Nat → Int → Int) (Y7 : Nat → Int → Int) (R8 : Nat → Int → Option Nat), rI k → (∀ i j, rI (X6 i j)) → (∀ i j, rL (Y7 i j)) → ((R8 = R4 ∨ R8 = zU R4 i 0 (some j)) ∧ ∃ x : Nat, k = x ∧ x ≤ 36 ∧ (0 < x → R8 = zU R4 i 0 (some j)) ∧ (∀ z, (z < i ∨ i + 88 < z) → X6 z = X z) ∧ dR Z q X6 R8 i ∧ lsR Z q X6 i (phN x) ∧ cN (lwF Z q) (phN x) ≤ x) → (((36 ≤ k) → ((R8) = zU (zU R i 1 (some jb)) i 0 (some j) ∧ (∀ z, (z < i ∨ i + 88 < z) → (X6) z = X z) ∧ chI (X6) i ∧ lsR Z q (X6) i 41)) ∧ ((¬ (36 ≤ k)) → (((36 ≤ (X6 (i + 49) 5)) → ((R8) = zU (zU R i 1 (some jb)) i 0 (some j) ∧ (∀ z, (z < i ∨ i + 88 < z) → (X6) z = X z) ∧ chI (X6) i ∧ lsR Z q (X6) i 41)) ∧ ((¬ (36 ≤ (X6 (i + 49) 5))) → ((rI (((k).tmod (9)) + 1)) ∧ (((dR (lwZ Z q (phI k)) q X6 R8 i ∧ vN (lwZ Z q (phI k)) q) ∧ (nR (lwZ Z q (phI k)) q X6 j ∧ j + 1 < i) ∧ ((((k).tmod (9)) + 1)) = (lwZ Z q (phI k)) q 30) ∧ (∀ Y13 : Nat → Int → Int, (∀ i j, rL (Y13 i j)) → ∀ R14 : Nat → Int → Option Nat, ((R14 = zU R8 i 0 (some j)) ∧ wR (lwZ Z q (phI k)) q (Y13) i ((lwZ Z q (phI k)) q 27) ∧ ∀ z, z ≠ i + 12 → z ≠ i + 13 → (Y13) z = Y7 z) → (((dR (lwZ Z q (phI k)) q X6 R14 i ∧ vN (lwZ Z q (phI k)) q) ∧ (nR (lwZ Z q (phI k)) q X6 (cn R14 i) ∧ (cn R14 i) + 1 < i) ∧ pyP X6 (cb R14 i)) ∧ (∀ X16 : Nat → Int → Int, (∀ i j, rI (X16 i j)) → (jR (lwZ Z q (phI k)) q (X16) i ((lwZ Z q (phI k)) q 27) ∧ jK X6 (X16) i) → (∀ X17 : Nat → Int → Int, (∀ i j, rI (X17 i j)) → (coX (X17) i = (csI ((((k).tdiv (9)).tdiv (2)))).1 ∧ ((X17) (i + 48) 0 = 0 ∧ (X17) (i + 47) 1 = ((((k).tdiv (9)).tmod (2))) ∧ (X17) (i + 47) 9 = 0 ∧ (X17) (i + 47) 14 = -1) ∧ ∀ z, z ≠ i + 47 → z ≠ i + 48 → (X17) z = X16 z) → ((0 ≤ (X17 (i + 49) 5) ∧ (X17 (i + 49) 5) < 36) ∧ ((cA (lwZ Z q (phI k)) q X17 Y13 R14 i ∧ (feR (lwZ Z q (phI k)) q X17 jf nf ∧ jf + 1 < i) ∧ (i + 51 ≤ (i + 51 + (X17 (i + 49) 5 : Int).toNat) ∧ (i + 51 + (X17 (i + 49) 5 : Int).toNat) < i + 87) ∧ X17 (i + 47) 9 = 0 ∧ ∃ t, coS (lwZ Z q (phI k)) q X17 i 1 t) ∧ (∀ X20 : Nat → Int → Int, (∀ i j, rI (X20 i j)) → ∀ Y21 : Nat → Int → Int, (∀ i j, rL (Y21 i j)) → ((∀ z, z ≠ i + 16 → z ≠ i + 47 → z ≠ i + 48 → z ≠ (i + 51 + (X17 (i + 49) 5 : Int).toNat) → (X20) z = X17 z) ∧ (∀ z, z ≠ i + 15 → (Y21) z = Y13 z) ∧ ∀ t, coS (lwZ Z q (phI k)) q X17 i 1 t → ∀ y : Nat, y < 41 → (X20) (i + 51 + (X17 (i + 49) 5 : Int).toNat) y = csTa (cx9 (lwZ Z q (phI k)) q (X17 (i + 47) 1)) (fW (lwZ Z q (phI k)) q) (fV (lwZ Z q (phI k)) q) (mDn (lwZ Z q (phI k)) q) t y) → ((0 ≤ (X20 (i + 49) 5) ∧ (X20 (i + 49) 5) < 36) ∧ (((oRw X20 jl nl ∧ X20 jl 0 = 2) ∧ ∀ k : Nat, (k : Int) < X20 jl 2 → 0 ≤ X20 (jl + 1) (k * 2 + 0) ∧ X20 (jl + 1) (k * 2 + 0) ≤ 40) ∧ ((((alN (fun k : Nat => decide (X20 (i + 51 + (X20 (i + 49) 5 : Int).toNat) (X20 (jl + 1) (k * 2 + 0)) = X20 (jl + 1) (k * 2 + 1))) (X20 jl 2).toNat) = true) → ((0 ≤ (X20 (i + 49) 5) ∧ (X20 (i + 49) 5) < 36) ∧ ((rI (((20 * (((k).tdiv (9)).tdiv (2))) + (10 * (((k).tdiv (9)).tmod (2)))) + (((k).tmod (9)) + 1))) ∧ (∀ X27 : Nat → Int → Int, X27 = zU X20 (i + 88) (X20 (i + 49) 5) (((20 * (((k).tdiv (9)).tdiv (2))) + (10 * (((k).tdiv (9)).tmod (2)))) + (((k).tmod (9)) + 1)) → (∀ i j, rI (X27 i j)) → ((rI ((X27 (i + 49) 5) + 1)) ∧ (∀ X29 : Nat → Int → Int, X29 = zU X27 (i + 49) 5 ((X27 (i + 49) 5) + 1) → (∀ i j, rI (X29 i j)) → ((rI (k + 1)) ∧ ((R14 = R4 ∨ R14 = zU R4 i 0 (some j)) ∧ ∃ x : Nat, (k + 1) = x ∧ x ≤ 36 ∧ (0 < x → R14 = zU R4 i 0 (some j)) ∧ (∀ z, (z < i ∨ i + 88 < z) → X29 z = X z) ∧ dR Z q X29 R14 i ∧ lsR Z q X29 i (phN x) ∧ cN (lwF Z q) (phN x) ≤ x) ∧ (((40 - (k + 1)).toNat) < ((40 - k).toNat))))))))) ∧ (((alN (fun k : Nat => decide (X20 (i + 51 + (X20 (i + 49) 5 : Int).toNat) (X20 (jl + 1) (k * 2 + 0)) = X20 (jl + 1) (k * 2 + 1))) (X20 jl 2).toNat) = false) → ((rI (k + 1)) ∧ ((R14 = R4 ∨ R14 = zU R4 i 0 (some j)) ∧ ∃ x : Nat, (k + 1) = x ∧ x ≤ 36 ∧ (0 < x → R14 = zU R4 i 0 (some j)) ∧ (∀ z, (z < i ∨ i + 88 < z) → X20 z = X z) ∧ dR Z q X20 R14 i ∧ lsR Z q X20 i (phN x) ∧ cN (lwF Z q) (phN x) ≤ x) ∧ (((40 - (k + 1)).toNat) < ((40 - k).toNat))))))))))))))))))))))))
set_option maxHeartbeats 4000000 in
set_option maxRecDepth 100000 in
theorem w_X4_survey {l : Launch} {D : va_G} {cy : Nat → ClassId} {bs N : Nat} {sa : Nat → Nat} {kd len : Nat → Nat} {X Y : Nat → Int → Int} {R : Nat → Int → Option Nat} {i : Nat} {Z : Nat → Int → Int} {q : Nat} {j jb jf nf jl nl : Nat} (hC : zSv N kd len R i j jb jf nf jl nl) (hsm : len (jf + 1) < 2147483648) (hsl : len (jl + 1) < 2147483648)  (hF : F_X4_survey i Z q j jb jf nf jl nl X Y R ) : Met l yX4_survey (.code yX4_survey cX4_survey 9 none :: zTB) (zRm 4 128) (zPc D cy bs sa N kd len X Y R [.ref (bs + (i + 49)), .ref (bs + (j)), .ref (bs + (jb)), .ref (bs + (jf)), .ref (bs + (jl))]) (zQv D cy bs N kd len (fun st => ((st.2.2) = zU (zU R i 1 (some jb)) i 0 (some j) ∧ (∀ z, (z < i ∨ i + 88 < z) → (st.1) z = X z) ∧ chI (st.1) i ∧ lsR Z q (st.1) i 41))) 0 0 (zA bs) := by
  refine zstart (by decide) (Nat.le_of_ble_eq_true rfl) ?_
  intro p e s m args below meth c ls C hE hH hr hlk hnm hl hargs
  have hF := hF hH.2.2.1 hH.2.2.2
  have hS : va_S (zA bs) s.heap s.heap [] := va_S.rf
  have hl : lv_has ls 9 [(0, .ref (bs + (i + 49))), (1, .ref (bs + (j))), (2, .ref (bs + (jb))), (3, .ref (bs + (jf))), (4, .ref (bs + (jl)))] := hl
  refine lv_aload_n C.1 C.2.1 dX4_survey_0 rfl (lv_at hl 0 rfl) ?_
  refine zd_iconst C dX4_survey_1 ?_
  refine zp4_5 C hH hS (zLw_n0 hC.1) (zLw_k0 hC.1) q_520 (by decide) dX4_survey_2 (fun H locs hH hS => ?_)
  obtain ⟨X1, eX1⟩ : ∃ z, z = zU X (i + 49) 5 (0) := ⟨_, rfl⟩
  rw [← eX1] at hH
  have hF := hF X1 eX1 hH.2.2.1
  refine lv_aload_n C.1 C.2.1 dX4_survey_5 rfl (lv_at hl 0 rfl) ?_
  refine zg4_0 C hH (zLw_n0 hC.1) (zLw_k0 hC.1) q_514 (zLw_r0 hC.1) dX4_survey_6 ?_
  refine lv_aload_n C.1 C.2.1 dX4_survey_9 rfl (lv_at hl 2 rfl) ?_
  obtain ⟨o2, hF⟩ := hF
  refine zgov (zrunV (As := [.ref (bs + (jb))]) (rest := []) C hE hH hS hl.1 (c_X1_draw (l := l) hC.1.1.1 hC.2.2.1  o2) k_RX4_35 ⟨Nat.le_of_ble_eq_true rfl, Nat.le_of_ble_eq_true rfl⟩ (zChart_n0 hC.1.1.1) (zChart_k0 hC.1.1.1) rfl rfl rfl (Nat.le_of_ble_eq_true rfl) dX4_survey_10 ⟨Nat.zero_le _, Nat.zero_le _⟩) hS (fun X3 Yq R4 H locs hq hH hS => ?_)
  obtain ⟨h9Y, hq⟩ := hq
  dsimp only at h9Y
  rw [h9Y] at hH
  have hF := hF X3 hH.2.2.1 R4 hq
  have hC := zSv_B hC hq.1
  refine zd_iconst C dX4_survey_13 ?_
  refine lv_istore (lv' := [(5, .int (zI (0))), (0, .ref (bs + (i + 49))), (1, .ref (bs + (j))), (2, .ref (bs + (jb))), (3, .ref (bs + (jf))), (4, .ref (bs + (jl)))]) C.1 C.2.1 dX4_survey_14 hl (by decide) rfl (fun ls hl => ?_)
  obtain ⟨hI5, hF⟩ := hF
  have L5 : ∀ (fu : Nat) (k : Int) (X6 : Nat → Int → Int) (Y7 : Nat → Int → Int) (R8 : Nat → Int → Option Nat), rI k → ((R8 = R4 ∨ R8 = zU R4 i 0 (some j)) ∧ ∃ x : Nat, k = x ∧ x ≤ 36 ∧ (0 < x → R8 = zU R4 i 0 (some j)) ∧ (∀ z, (z < i ∨ i + 88 < z) → X6 z = X z) ∧ dR Z q X6 R8 i ∧ lsR Z q X6 i (phN x) ∧ cN (lwF Z q) (phN x) ≤ x) → ((40 - k).toNat) < fu → ∀ (H : Heap) (locs : List Loc) (ls : Array Slot), zH D cy bs N kd len X6 Y7 R8 H → va_S (zA bs) s.heap H locs → lv_has ls 9 [(5, .int (zI (k))), (0, .ref (bs + (i + 49))), (1, .ref (bs + (j))), (2, .ref (bs + (jb))), (3, .ref (bs + (jf))), (4, .ref (bs + (jl)))] → W p l e (zRm 4 128) s m args below meth c H locs 0 0 (MQ below (zQv D cy bs N kd len (fun st => ((st.2.2) = zU (zU R i 1 (some jb)) i 0 (some j) ∧ (∀ z, (z < i ∨ i + 88 < z) → (st.1) z = X z) ∧ chI (st.1) i ∧ lsR Z q (st.1) i 41))) args s 0 0 (zA bs)) (F0 m 16 ls []) := by
    intro fu
    induction fu with
    | zero => intro k X6 Y7 R8 _ _ hmu; exact absurd hmu (Nat.not_lt_zero _)
    | succ fu ih5 =>
      intro k X6 Y7 R8 hk hI hmu5 H locs ls hH hS hl
      have hC := zSv_R hC hI.1
      have hF := hF k X6 Y7 R8 hk hH.2.2.1 hH.2.2.2 hI
      refine lv_iload C.1 C.2.1 dX4_survey_16 (lv_at hl 0 rfl) ?_
      refine zd_bipush C (by decide) dX4_survey_18 ?_
      refine zd_icmp_ge C hk (by decide) 160 dX4_survey_20 (by decide) (fun c9 => ?_) (fun c9 => ?_)
      · have hF := hF.1 c9
        exact zd_vret C hr hlk hH hS (hF) dX4_survey_160
      · have hF := hF.2 c9
        refine lv_aload_n C.1 C.2.1 dX4_survey_23 rfl (lv_at hl 1 rfl) ?_
        refine zg4_5 C hH (zLw_n0 hC.1) (zLw_k0 hC.1) q_520 dX4_survey_24 ?_
        refine zd_bipush C (by decide) dX4_survey_27 ?_
        refine zd_icmp_ge C (hH.2.2.1 _ _) (by decide) 160 dX4_survey_29 (by decide) (fun c10 => ?_) (fun c10 => ?_)
        · have hF := hF.1 c10
          exact zd_vret C hr hlk hH hS (hF) dX4_survey_160
        · have hF := hF.2 c10
          refine lv_iload C.1 C.2.1 dX4_survey_32 (lv_at hl 0 rfl) ?_
          refine zd_bipush C (by decide) dX4_survey_34 ?_
          refine zd_irem C hk (by decide) (by decide) (by decide) dX4_survey_36 ?_
          refine zd_iconst C dX4_survey_37 ?_
          refine zd_iadd C dX4_survey_38 ?_
          refine lv_istore (lv' := [(6, .int (zI (((k).tmod (9)) + 1))), (5, .int (zI (k))), (0, .ref (bs + (i + 49))), (1, .ref (bs + (j))), (2, .ref (bs + (jb))), (3, .ref (bs + (jf))), (4, .ref (bs + (jl)))]) C.1 C.2.1 dX4_survey_39 hl (by decide) rfl (fun ls hl => ?_)
          refine lv_iload C.1 C.2.1 dX4_survey_41 (lv_at hl 1 rfl) ?_
          refine zd_bipush C (by decide) dX4_survey_43 ?_
          refine zd_idiv C hk (by decide) (by decide) (by decide) dX4_survey_45 ?_
          refine zd_iconst C dX4_survey_46 ?_
          refine zd_irem C (tdiv_rI hk (show (9 : Int) ≠ -1 from (by decide))) (by decide) (by decide) (by decide) dX4_survey_47 ?_
          refine lv_istore (lv' := [(7, .int (zI (((k).tdiv (9)).tmod (2)))), (6, .int (zI (((k).tmod (9)) + 1))), (5, .int (zI (k))), (0, .ref (bs + (i + 49))), (1, .ref (bs + (j))), (2, .ref (bs + (jb))), (3, .ref (bs + (jf))), (4, .ref (bs + (jl)))]) C.1 C.2.1 dX4_survey_48 hl (by decide) rfl (fun ls hl => ?_)
          refine lv_iload C.1 C.2.1 dX4_survey_50 (lv_at hl 2 rfl) ?_
          refine zd_bipush C (by decide) dX4_survey_52 ?_
          refine zd_idiv C hk (by decide) (by decide) (by decide) dX4_survey_54 ?_
          refine zd_iconst C dX4_survey_55 ?_
          refine zd_idiv C (tdiv_rI hk (show (9 : Int) ≠ -1 from (by decide))) (by decide) (by decide) (by decide) dX4_survey_56 ?_
          refine lv_istore (lv' := [(8, .int (zI (((k).tdiv (9)).tdiv (2)))), (7, .int (zI (((k).tdiv (9)).tmod (2)))), (6, .int (zI (((k).tmod (9)) + 1))), (5, .int (zI (k))), (0, .ref (bs + (i + 49))), (1, .ref (bs + (j))), (2, .ref (bs + (jb))), (3, .ref (bs + (jf))), (4, .ref (bs + (jl)))]) C.1 C.2.1 dX4_survey_57 hl (by decide) rfl (fun ls hl => ?_)
          refine lv_aload_n C.1 C.2.1 dX4_survey_59 rfl (lv_at hl 4 rfl) ?_
          refine zg4_0 C hH (zLw_n0 hC.1) (zLw_k0 hC.1) q_514 (zLw_r0 hC.1) dX4_survey_60 ?_
          refine lv_aload_n C.1 C.2.1 dX4_survey_63 rfl (lv_at hl 5 rfl) ?_
          refine lv_iload C.1 C.2.1 dX4_survey_64 (lv_at hl 2 rfl) ?_
          obtain ⟨o11, hF⟩ := hF
          obtain ⟨o12, hF⟩ := hF
          refine zgov (zrunV (As := [.ref (bs + (j)), .int (zI (((k).tmod (9)) + 1))]) (rest := []) C hE hH hS hl.1 (c_X1_weigh (l := l) hC.1.1.1 hC.2.1 (((k).tmod (9)) + 1) o11 o12) k_RX4_41 ⟨Nat.le_of_ble_eq_true rfl, Nat.le_of_ble_eq_true rfl⟩ (zChart_n0 hC.1.1.1) (zChart_k0 hC.1.1.1) rfl rfl rfl (Nat.le_of_ble_eq_true rfl) dX4_survey_66 ⟨Nat.zero_le _, Nat.zero_le _⟩) hS (fun Xq Y13 R14 H locs hq hH hS => ?_)
          obtain ⟨h9X, hq⟩ := hq
          dsimp only at h9X
          rw [h9X] at hH
          have hF := hF Y13 hH.2.2.2 R14 hq
          have hC := zSv_N hC hq.1
          refine lv_aload_n C.1 C.2.1 dX4_survey_69 rfl (lv_at hl 4 rfl) ?_
          refine zg4_0 C hH (zLw_n0 hC.1) (zLw_k0 hC.1) q_514 (zLw_r0 hC.1) dX4_survey_70 ?_
          obtain ⟨o15, hF⟩ := hF
          refine zgov (zrunV (As := []) (rest := []) C hE hH hS hl.1 (c_X1_judge (l := l) hC.1.1.1  o15) k_RX4_45 ⟨Nat.le_of_ble_eq_true rfl, Nat.le_of_ble_eq_true rfl⟩ (zChart_n0 hC.1.1.1) (zChart_k0 hC.1.1.1) rfl rfl rfl (Nat.le_of_ble_eq_true rfl) dX4_survey_73 ⟨Nat.zero_le _, Nat.zero_le _⟩) hS (fun X16 Yq Rq H locs hq hH hS => ?_)
          obtain ⟨h9Y, h9R, hq⟩ := hq
          dsimp only at h9Y h9R
          rw [h9Y, h9R] at hH
          have hF := hF X16 hH.2.2.1 hq
          refine lv_aload_n C.1 C.2.1 dX4_survey_76 rfl (lv_at hl 4 rfl) ?_
          refine zg4_1 C hH (zLw_n0 hC.1) (zLw_k0 hC.1) q_515 (zLw_r1 hC.1) dX4_survey_77 ?_
          refine lv_iload C.1 C.2.1 dX4_survey_80 (lv_at hl 0 rfl) ?_
          refine lv_iload C.1 C.2.1 dX4_survey_82 (lv_at hl 1 rfl) ?_
          refine zgov (zrunV (As := [.int (zI (((k).tdiv (9)).tdiv (2))), .int (zI (((k).tdiv (9)).tmod (2)))]) (rest := []) C hE hH hS hl.1 (c_X2_begin (l := l) hC.1.1 (((k).tdiv (9)).tdiv (2)) (tdiv_rI (tdiv_rI hk (show (9 : Int) ≠ -1 from (by decide))) (show (2 : Int) ≠ -1 from (by decide))) (((k).tdiv (9)).tmod (2)) (tmod_rI (tdiv_rI hk (show (9 : Int) ≠ -1 from (by decide))) (show (2 : Int) ≠ -1 from (by decide)))) k_RX4_48 ⟨Nat.le_of_ble_eq_true rfl, Nat.le_of_ble_eq_true rfl⟩ (zCo_n hC.1.1) (zCo_k hC.1.1) rfl rfl rfl (Nat.le_of_ble_eq_true rfl) dX4_survey_84 ⟨Nat.zero_le _, Nat.zero_le _⟩) hS (fun X17 Yq Rq H locs hq hH hS => ?_)
          obtain ⟨h9Y, h9R, hq⟩ := hq
          dsimp only at h9Y h9R
          rw [h9Y, h9R] at hH
          have hF := hF X17 hH.2.2.1 hq
          refine lv_aload_n C.1 C.2.1 dX4_survey_87 rfl (lv_at hl 4 rfl) ?_
          refine lv_aload_n C.1 C.2.1 dX4_survey_88 rfl (lv_at hl 7 rfl) ?_
          refine lv_aload_n C.1 C.2.1 dX4_survey_89 rfl (lv_at hl 4 rfl) ?_
          refine zg4_2 C hH (zLw_n0 hC.1) (zLw_k0 hC.1) q_516 (zLw_t hC.1).2.2 dX4_survey_90 ?_
          refine lv_aload_n C.1 C.2.1 dX4_survey_93 rfl (lv_at hl 4 rfl) ?_
          refine zg4_5 C hH (zLw_n0 hC.1) (zLw_k0 hC.1) q_520 dX4_survey_94 ?_
          obtain ⟨o18, hF⟩ := hF
          refine zd_aaldr C hH (zLw_nt hC.1) 9 rfl rfl (by rw [(zLw_t hC.1).1]; rfl) o18.1 (by rw [zLw_lt hC.1]; exact o18.2) (by rw [zLw_lt hC.1]; decide) (zLw_z hC.1 o18.1 o18.2).1 dX4_survey_97 ?_
          obtain ⟨o19, hF⟩ := hF
          refine zgov (zrunV (As := [.ref (bs + (jf)), .ref (bs + (i + 51 + (X17 (i + 49) 5 : Int).toNat))]) (rest := []) C hE hH hS hl.1 (c_X4_goThrough (l := l) hC.1 hC.2.2.2.1 hsm (show zRw N kd len _ from ⟨(zLw_z hC.1 o18.1 o18.2).2.1, (zLw_z hC.1 o18.1 o18.2).2.2.1, (zLw_z hC.1 o18.1 o18.2).2.2.2⟩)  o19) k_RX4_54 ⟨Nat.le_of_ble_eq_true rfl, Nat.le_of_ble_eq_true rfl⟩ (zLw_n0 hC.1) (zLw_k0 hC.1) rfl rfl rfl (Nat.le_of_ble_eq_true rfl) dX4_survey_98 ⟨Nat.zero_le _, Nat.zero_le _⟩) hS (fun X20 Y21 Rq H locs hq hH hS => ?_)
          obtain ⟨h9R, hq⟩ := hq
          dsimp only at h9R
          rw [h9R] at hH
          have hF := hF X20 hH.2.2.1 Y21 hH.2.2.2 hq
          refine lv_aload C.1 C.2.1 dX4_survey_101 (lv_at hl 8 rfl) ?_
          refine lv_aload_n C.1 C.2.1 dX4_survey_103 rfl (lv_at hl 4 rfl) ?_
          refine zg4_2 C hH (zLw_n0 hC.1) (zLw_k0 hC.1) q_516 (zLw_t hC.1).2.2 dX4_survey_104 ?_
          refine lv_aload_n C.1 C.2.1 dX4_survey_107 rfl (lv_at hl 4 rfl) ?_
          refine zg4_5 C hH (zLw_n0 hC.1) (zLw_k0 hC.1) q_520 dX4_survey_108 ?_
          obtain ⟨o22, hF⟩ := hF
          refine zd_aaldr C hH (zLw_nt hC.1) 9 rfl rfl (by rw [(zLw_t hC.1).1]; rfl) o22.1 (by rw [zLw_lt hC.1]; exact o22.2) (by rw [zLw_lt hC.1]; decide) (zLw_z hC.1 o22.1 o22.2).1 dX4_survey_111 ?_
          obtain ⟨o23, hF⟩ := hF
          refine zgoi (zrunS (As := [.ref (bs + (jl)), .ref (bs + (i + 51 + (X20 (i + 49) 5 : Int).toNat))]) (rest := []) C hE hH hS hl.1 (c_X4_isSo (l := l) hC.2.2.2.2 hsl (show zRw N kd len _ from ⟨(zLw_z hC.1 o22.1 o22.2).2.1, (zLw_z hC.1 o22.1 o22.2).2.2.1, (zLw_z hC.1 o22.1 o22.2).2.2.2⟩)  o23) k_RX4_58 ⟨Nat.le_of_ble_eq_true rfl, Nat.le_of_ble_eq_true rfl⟩ rfl (Nat.le_of_ble_eq_true rfl) dX4_survey_112 ⟨Nat.zero_le _, Nat.zero_le _⟩) hS (fun rq Xq Yq Rq H locs hrq hq hH hS => ?_)
          obtain ⟨h91, h92⟩ := hq
          have h93 : Xq = X20 := congrArg (fun z => z.1) h92
          have h94 : Yq = Y21 := congrArg (fun z => z.2.1) h92
          have h95 : Rq = R14 := congrArg (fun z => z.2.2) h92
          rw [h93, h94, h95] at hH
          subst h91
          refine zd_ifB_ne C 121 dX4_survey_115 (by decide) (fun c24 => ?_) (fun c24 => ?_)
          · have hF := hF.1 c24
            refine lv_aload_n C.1 C.2.1 dX4_survey_121 rfl (lv_at hl 4 rfl) ?_
            refine zg4_4 C hH (zLw_n0 hC.1) (zLw_k0 hC.1) q_518 (zLw_m hC.1).2.2 dX4_survey_122 ?_
            refine lv_aload_n C.1 C.2.1 dX4_survey_125 rfl (lv_at hl 4 rfl) ?_
            refine zg4_5 C hH (zLw_n0 hC.1) (zLw_k0 hC.1) q_520 dX4_survey_126 ?_
            refine zd_bipush C (by decide) dX4_survey_129 ?_
            refine lv_iload C.1 C.2.1 dX4_survey_131 (lv_at hl 0 rfl) ?_
            refine zd_imul C dX4_survey_133 ?_
            refine zd_bipush C (by decide) dX4_survey_134 ?_
            refine lv_iload C.1 C.2.1 dX4_survey_136 (lv_at hl 1 rfl) ?_
            refine zd_imul C dX4_survey_138 ?_
            refine zd_iadd C dX4_survey_139 ?_
            refine lv_iload C.1 C.2.1 dX4_survey_140 (lv_at hl 2 rfl) ?_
            refine zd_iadd C dX4_survey_142 ?_
            obtain ⟨o25, hF⟩ := hF
            obtain ⟨o26, hF⟩ := hF
            refine zd_iast C hH hS (zLw_nn hC.1) (zLw_m hC.1).1 o25.1 (by rw [zLw_lm hC.1]; exact o25.2) (by rw [zLw_lm hC.1]; decide) o26 dX4_survey_143 (fun H locs hH hS => ?_)
            obtain ⟨X27, eX27⟩ : ∃ z, z = zU X20 (i + 88) (X20 (i + 49) 5) (((20 * (((k).tdiv (9)).tdiv (2))) + (10 * (((k).tdiv (9)).tmod (2)))) + (((k).tmod (9)) + 1)) := ⟨_, rfl⟩
            rw [← eX27] at hH
            have hF := hF X27 eX27 hH.2.2.1
            refine lv_aload_n C.1 C.2.1 dX4_survey_144 rfl (lv_at hl 4 rfl) ?_
            refine lv_dup C.1 C.2.1 dX4_survey_145 rfl ?_
            refine zg4_5 C hH (zLw_n0 hC.1) (zLw_k0 hC.1) q_520 dX4_survey_146 ?_
            refine zd_iconst C dX4_survey_149 ?_
            refine zd_iadd C dX4_survey_150 ?_
            obtain ⟨o28, hF⟩ := hF
            refine zp4_5 C hH hS (zLw_n0 hC.1) (zLw_k0 hC.1) q_520 o28 dX4_survey_151 (fun H locs hH hS => ?_)
            obtain ⟨X29, eX29⟩ : ∃ z, z = zU X27 (i + 49) 5 ((X27 (i + 49) 5) + 1) := ⟨_, rfl⟩
            rw [← eX29] at hH
            have hF := hF X29 eX29 hH.2.2.1
            refine zd_iinc (k := 3) (lv' := [(5, .int (zI (k + 1))), (8, .int (zI (((k).tdiv (9)).tdiv (2)))), (7, .int (zI (((k).tdiv (9)).tmod (2)))), (6, .int (zI (((k).tmod (9)) + 1))), (0, .ref (bs + (i + 49))), (1, .ref (bs + (j))), (2, .ref (bs + (jb))), (3, .ref (bs + (jf))), (4, .ref (bs + (jl)))]) C hl rfl dX4_survey_154 (by decide) rfl (fun ls hl => ?_)
            refine lv_goto (tgt := 16) C.1 C.2.1 dX4_survey_157 (by decide) ?_
            obtain ⟨o30, hF⟩ := hF
            exact ih5 (k + 1) X29 Y21 R14 o30 hF.1 (Nat.lt_of_lt_of_le hF.2 (Nat.le_of_lt_succ hmu5)) _ _ _ hH hS (lv_sub hl [0, 4, 5, 6, 7, 8] rfl)
          · have hF := hF.2 c24
            refine lv_goto (tgt := 154) C.1 C.2.1 dX4_survey_118 (by decide) ?_
            refine zd_iinc (k := 3) (lv' := [(5, .int (zI (k + 1))), (8, .int (zI (((k).tdiv (9)).tdiv (2)))), (7, .int (zI (((k).tdiv (9)).tmod (2)))), (6, .int (zI (((k).tmod (9)) + 1))), (0, .ref (bs + (i + 49))), (1, .ref (bs + (j))), (2, .ref (bs + (jb))), (3, .ref (bs + (jf))), (4, .ref (bs + (jl)))]) C hl rfl dX4_survey_154 (by decide) rfl (fun ls hl => ?_)
            refine lv_goto (tgt := 16) C.1 C.2.1 dX4_survey_157 (by decide) ?_
            obtain ⟨o31, hF⟩ := hF
            exact ih5 (k + 1) X20 Y21 R14 o31 hF.1 (Nat.lt_of_lt_of_le hF.2 (Nat.le_of_lt_succ hmu5)) _ _ _ hH hS (lv_sub hl [0, 4, 5, 6, 7, 8] rfl)
  exact L5 (((40 - (0 : Int)).toNat) + 1) ((0 : Int)) X3 Y R4 (by decide) hI5 (Nat.lt_succ_self _) _ _ _ hH hS (lv_sub hl [0, 1, 2, 3, 4, 5] rfl)
theorem v_X4_survey {X Y : Nat → Int → Int} {R : Nat → Int → Option Nat} {i : Nat} {Z : Nat → Int → Int} {q j jb jf nf jl nl : Nat}  (hp : (((vZ Z q ∧ chI X i) ∧ bR Z q X jb) ∧ jb + 5 < i) ∧ (vN Z q ∧ nR Z q X j ∧ j + 1 < i) ∧ pyP X jb ∧ (feR Z q X jf nf ∧ jf + 1 < i) ∧ lgR Z q X jl nl ∧ jl + 1 < i) : F_X4_survey i Z q j jb jf nf jl nl X Y R  := by
  unfold F_X4_survey
  intro hX hY
  obtain ⟨⟨⟨⟨hv, hI⟩, hb⟩, hjb⟩, ⟨hN, hnr, hja⟩, hpy, ⟨hf, hjf⟩, hlg, hjl⟩ := hp
  intro X1
  intro eX1
  have o1 : ∀ z, z ≠ i + 49 → X1 z = X z := fun z h => by rw [eX1, zU_o h]
  intro rX1
  refine ⟨?_, ?_⟩
  · refine ⟨⟨⟨hv, ?_⟩, ?_⟩, hjb⟩
    · unfold chI
      rw [o1 (i + 9) (by omega), o1 (i + 11) (by omega)]
      exact hI
    · unfold bR
      rw [o1 jb (by omega), o1 (jb + 1) (by omega), o1 (jb + 2) (by omega), o1 (jb + 3) (by omega), o1 (jb + 4) (by omega), o1 (jb + 5) (by omega)]
      exact hb
  intro X3
  intro rX3
  intro R4
  intro h1
  obtain ⟨eR4, hd3, o3, _⟩ := h1
  have oi3 : ∀ z, (z < i ∨ i + 88 < z) → X3 z = X z := fun z hz => (o3 z (by omega) (by omega) (by omega) (by omega)).trans (o1 z (by omega))
  refine ⟨?_, ?_⟩
  · have f0 : lwF Z q 0 = false := lwF_z rfl
    have c1 : cN (lwF Z q) 1 = 0 := by rw [cN_n f0]; rfl
    refine ⟨Or.inl rfl, 0, rfl, by decide, fun h => absurd h (Nat.lt_irrefl _), oi3, hd3, ⟨?_, fun w hw hfw => ?_⟩, ?_⟩
    · show X3 (i + 49) 5 = cN (lwF Z q) 1
      rw [c1, o3 _ (by omega) (by omega) (by omega) (by omega), eX1, zU_s]
    · have hw : w < 1 := hw
      rw [show w = 0 by omega, f0] at hfw
      exact absurd hfw (by decide)
    · show cN (lwF Z q) 1 ≤ 0
      rw [c1]
      exact Int.le_refl _
  intro k X6 Y7 R8
  intro _
  intro rX6
  intro rY7
  intro h2
  obtain ⟨eR8, x, rfl, hx, hR8, o6, hd6, hls, hcx⟩ := h2
  refine ⟨?_, ?_⟩
  · intro c1
    obtain rfl : x = 36 := by omega
    exact ⟨by rw [hR8 (by decide), eR4], o6, hd6.1.2, hls⟩
  intro c2
  refine ⟨?_, ?_⟩
  · intro c3
    exfalso
    rw [hls.1] at c3
    omega
  intro c4
  have hx36 : x < 36 := by omega
  obtain ⟨p1, p2, p3, p4, p5, p6, p7⟩ := ph_1 x hx36
  have t9 : (x : Int).tmod 9 = ((x % 9 : Nat) : Int) := rfl
  have t92 : ((x : Int).tdiv 9).tdiv 2 = ((x / 9 / 2 : Nat) : Int) := rfl
  have t93 : ((x : Int).tdiv 9).tmod 2 = ((x / 9 % 2 : Nat) : Int) := rfl
  have hvN : vN (lwZ Z q (phI x)) q := lw_vN (by rw [p4]; omega) hN
  have hn6 : nR Z q X6 j := by
    unfold nR
    rw [o6 j (by omega), o6 (j + 1) (by omega)]
    exact hnr
  refine ⟨?_, ?_⟩
  · first | omega | exact ⟨by omega, by omega⟩ | decide | assumption | exact ⟨by omega, by omega, by omega⟩ | exact ⟨by decide, by decide⟩
  refine ⟨?_, ?_⟩
  · exact ⟨⟨lw_dR hd6, hvN⟩, ⟨lw_nR hn6, hja⟩, by rw [lwZ_s.2.2, p4]⟩
  intro Y13
  intro rY13
  intro R14
  intro h3
  obtain ⟨eR14, hw, fy⟩ := h3
  have e14 : R14 = zU R4 i 0 (some j) := by
    rcases eR8 with g | g
    · rw [eR14, g]
    · rw [eR14, g, zU_2]
  have hcn : cn R14 i = j := by
    unfold cn
    rw [eR14, zU_s]
    rfl
  have hcb : cb R14 i = jb := by
    unfold cb
    rw [e14, zU_n (by omega), eR4, zU_s]
    rfl
  have hd14 : dR Z q X6 R14 i := dR_m rfl (fun _ _ _ => rfl) (by rw [eR14, zU_n (by omega)]) hd6
  rw [hcn, hcb]
  refine ⟨?_, ?_⟩
  · refine ⟨⟨lw_dR hd14, hvN⟩, ⟨lw_nR hn6, hja⟩, ?_⟩
    unfold pyP
    rw [o6 (jb + 5) (by omega)]
    exact hpy
  intro X16
  intro rX16
  intro h4
  obtain ⟨hj, jk⟩ := h4
  have o16 : ∀ z, (z < i ∨ i + 88 < z) → X16 z = X6 z := fun z hz => jk.1 z (by omega) (by omega)
  have hd16 : dR Z q X16 R14 i := dR_m (jk.2 2 (by decide)) (fun z h1 h2 => jk.1 z h1 (by omega)) rfl hd14
  have hn16 : nR Z q X16 j := by
    unfold nR
    rw [o16 j (by omega), o16 (j + 1) (by omega)]
    exact hn6
  have hA16 : cA (lwZ Z q (phI x)) q X16 Y13 R14 i := ⟨lw_dR hd16, hvN, ⟨by rw [hcn]; exact lw_nR hn16, by rw [hcn]; exact hja⟩, hw, hj⟩
  intro X17
  intro rX17
  intro h5
  obtain ⟨hcX, ⟨z0, ztie, z9, _⟩, o17⟩ := h5
  have hA17 : cA (lwZ Z q (phI x)) q X17 Y13 R14 i := cA_f (fun z h _ => o17 z (by omega) (by omega)) (fun _ _ => rfl) hA16
  have hS := begin_S (lw_vZ (e := phI x) hv) (rho := ((x : Int).tdiv 9).tdiv 2) (by omega) hcX z0
  have e17 : X17 (i + 49) = X6 (i + 49) := (o17 _ (by omega) (by omega)).trans (jk.1 _ (by omega) (by omega))
  obtain ⟨m, hm⟩ : ∃ m : Nat, cN (lwF Z q) (phN x) = m := ⟨(cN (lwF Z q) (phN x)).toNat, by have := (cN_b (lwF Z q) (phN x)).1; omega⟩
  have em : X17 (i + 49) 5 = m := by rw [e17, hls.1, hm]
  rw [em, show ((m : Nat) : Int).toNat = m from rfl]
  have ozi : ∀ z, (z < i ∨ i + 88 < z) → X17 z = X z := fun z hz => (o17 z (by omega) (by omega)).trans ((o16 z hz).trans (o6 z hz))
  refine ⟨?_, ?_⟩
  · first | omega | exact ⟨by omega, by omega⟩ | decide | assumption | exact ⟨by omega, by omega, by omega⟩ | exact ⟨by decide, by decide⟩
  refine ⟨?_, ?_⟩
  · refine ⟨hA17, ⟨lw_feR ?_, hjf⟩, ⟨by omega, by omega⟩, z9, _, hS⟩
    unfold feR oRw
    rw [ozi jf (by omega), ozi (jf + 1) (by omega)]
    exact hf
  intro X20
  intro rX20
  intro Y21
  intro rY21
  intro h6
  obtain ⟨o20, y20, ht⟩ := h6
  have e20 : X20 (i + 49) 5 = m := by rw [o20 _ (by omega) (by omega) (by omega) (by omega), em]
  rw [e20, show ((m : Nat) : Int).toNat = m from rfl]
  have htt : ∀ y : Nat, y < 41 → X20 (i + 51 + m) y = lwT Z q (phN x : Nat) y := fun y hy => by
    have g := ht _ hS y hy
    rw [lw_fd.1, lw_fd.2.1, lw_fd.2.2, ztie] at g
    rw [g]
    unfold lwT
    rw [← p1, p6]
    show _ = csTa (cx9 (lwZ Z q (phI x)) q (lwZ Z q (phI x) q 29)) _ _ _ _ _
    rw [lwZ_s.2.1, p5]
  have oz : ∀ z, (z < i ∨ i + 88 < z) → X20 z = X z := fun z hz => (o20 z (by omega) (by omega) (by omega) (by omega)).trans (ozi z hz)
  have hl20 : lgR Z q X20 jl nl := by
    unfold lgR oRw
    rw [oz jl (by omega), oz (jl + 1) (by omega)]
    exact hlg
  have hd20 : dR Z q X20 R14 i := dR_m (by rw [o20 i (by omega) (by omega) (by omega) (by omega), o17 i (by omega) (by omega)]) (fun z h1 h2 => (o20 z (by omega) (by omega) (by omega) (by omega)).trans (o17 z (by omega) (by omega))) rfl hd16
  have o88 : X20 (i + 88) = X6 (i + 88) := (o20 _ (by omega) (by omega) (by omega) (by omega)).trans ((o17 _ (by omega) (by omega)).trans (jk.1 _ (by omega) (by omega)))
  have ot : ∀ k : Nat, k < m → X20 (i + 51 + k) = X6 (i + 51 + k) := fun k hk => (o20 _ (by omega) (by omega) (by omega) (by omega)).trans ((o17 _ (by omega) (by omega)).trans (jk.1 _ (by omega) (by omega)))
  have efit : alN (fun k : Nat => decide (X20 (i + 51 + m) (X20 (jl + 1) (k * 2 + 0)) = X20 (jl + 1) (k * 2 + 1))) (X20 jl 2).toNat = lwF Z q (phN x) := by
    unfold lwF
    rw [decide_eq_true (show 0 < phN x % 10 by omega), Bool.true_and, hl20.2.1]
    refine alN_cong (fun k hk => ?_)
    have g := hl20.2.2 k (by omega)
    show decide (X20 (i + 51 + m) (X20 (jl + 1) (k * 2 + 0)) = X20 (jl + 1) (k * 2 + 1)) = decide (lwT Z q (phN x : Nat) (mLf Z q k 0).toNat = mLf Z q k 1)
    rw [g.1, g.2.1, ← htt (mLf Z q k 0).toNat (by omega), show (((mLf Z q k 0).toNat : Nat) : Int) = mLf Z q k 0 by omega]
  rw [efit]
  refine ⟨?_, ?_⟩
  · first | omega | exact ⟨by omega, by omega⟩ | decide | assumption | exact ⟨by omega, by omega, by omega⟩ | exact ⟨by decide, by decide⟩
  refine ⟨?_, ?_⟩
  · refine ⟨⟨hl20.1.1, hl20.1.2.1⟩, fun k hk => ?_⟩
    have g := hl20.2.2 k (by rw [← hl20.2.1]; exact hk)
    rw [g.1]
    exact ⟨g.2.2.1, g.2.2.2⟩
  refine ⟨?_, ?_⟩
  · intro c5
    refine ⟨?_, ?_⟩
    · first | omega | exact ⟨by omega, by omega⟩ | decide | assumption | exact ⟨by omega, by omega, by omega⟩ | exact ⟨by decide, by decide⟩
    refine ⟨?_, ?_⟩
    · first | omega | exact ⟨by omega, by omega⟩ | decide | assumption | exact ⟨by omega, by omega, by omega⟩ | exact ⟨by decide, by decide⟩
    intro X27
    intro eX27
    have n27 : X27 (i + 49) 5 = m := by rw [eX27, zU_o (by omega), e20]
    rw [n27]
    intro rX27
    refine ⟨?_, ?_⟩
    · first | omega | exact ⟨by omega, by omega⟩ | decide | assumption | exact ⟨by omega, by omega, by omega⟩ | exact ⟨by decide, by decide⟩
    intro X29
    intro eX29
    intro rX29
    refine ⟨?_, ?_⟩
    · first | omega | exact ⟨by omega, by omega⟩ | decide | assumption | exact ⟨by omega, by omega, by omega⟩ | exact ⟨by decide, by decide⟩
    refine ⟨?_, ?_⟩
    · have en : X29 (i + 88) m = phN x := by
        rw [eX29, zU_o (by omega), eX27, zU_s, ← p1]
        rfl
      refine ⟨Or.inr e14, x + 1, by omega, by omega, fun _ => e14, fun z hz => by rw [eX29, zU_o (by omega), eX27, zU_o (by omega)]; exact oz z hz, dR_m (by rw [eX29, zU_o (by omega), eX27, zU_o (by omega)]) (fun z h1 h2 => by rw [eX29, zU_o (by omega), eX27, zU_o (by omega)]) rfl hd20, lsR_y hx36 hls c5 hm (by rw [eX29, zU_s]) en (fun y hy => by rw [eX29, zU_o (by omega), eX27, zU_o (by omega)]; exact htt y (by omega)) (fun k hk => by rw [eX29, zU_o (by omega), eX27, zU_n (by omega), o88]) (fun k hk => by rw [eX29, zU_o (by omega), eX27, zU_o (by omega)]; exact ot k hk), ?_⟩
      rw [cN_ph hx36, c5, hm, if_pos rfl]
      omega
    first | omega | exact ⟨by omega, by omega⟩ | decide | assumption | exact ⟨by omega, by omega, by omega⟩ | exact ⟨by decide, by decide⟩
  intro c6
  refine ⟨?_, ?_⟩
  · first | omega | exact ⟨by omega, by omega⟩ | decide | assumption | exact ⟨by omega, by omega, by omega⟩ | exact ⟨by decide, by decide⟩
  refine ⟨?_, ?_⟩
  · refine ⟨Or.inr e14, x + 1, by omega, by omega, fun _ => e14, oz, hd20, lsR_n hx36 hls c6 hm e20 (fun k hk => by rw [o88]) ot, ?_⟩
    rw [cN_ph hx36, c6, hm, if_neg (by decide)]
    omega
  first | omega | exact ⟨by omega, by omega⟩ | decide | assumption | exact ⟨by omega, by omega, by omega⟩ | exact ⟨by decide, by decide⟩
theorem c_X4_survey {l : Launch} {D : va_G} {cy : Nat → ClassId} {bs N : Nat} {sa : Nat → Nat} {kd len : Nat → Nat} {X Y : Nat → Int → Int} {R : Nat → Int → Option Nat} {i : Nat} {Z : Nat → Int → Int} {q : Nat} {j jb jf nf jl nl : Nat} (hC : zSv N kd len R i j jb jf nf jl nl) (hsm : len (jf + 1) < 2147483648) (hsl : len (jl + 1) < 2147483648)  (hp : (((vZ Z q ∧ chI X i) ∧ bR Z q X jb) ∧ jb + 5 < i) ∧ (vN Z q ∧ nR Z q X j ∧ j + 1 < i) ∧ pyP X jb ∧ (feR Z q X jf nf ∧ jf + 1 < i) ∧ lgR Z q X jl nl ∧ jl + 1 < i) : Met l yX4_survey (.code yX4_survey cX4_survey 9 none :: zTB) (zRm 4 128) (zPc D cy bs sa N kd len X Y R [.ref (bs + (i + 49)), .ref (bs + (j)), .ref (bs + (jb)), .ref (bs + (jf)), .ref (bs + (jl))]) (zQv D cy bs N kd len (fun st => ((st.2.2) = zU (zU R i 1 (some jb)) i 0 (some j) ∧ (∀ z, (z < i ∨ i + 88 < z) → (st.1) z = X z) ∧ chI (st.1) i ∧ lsR Z q (st.1) i 41))) 0 0 (zA bs) := w_X4_survey hC hsm hsl  (v_X4_survey  hp)
