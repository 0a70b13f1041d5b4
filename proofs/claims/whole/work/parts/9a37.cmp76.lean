/-! THE LAW: rows of its own, and what each call keeps -/
def R_law : String := "WorkChainsLaw"
def sv (xs : Nat → Int32) (k : Nat) : Int := (xs k).toInt
abbrev rd5 (pc : Nat) (n : Int) : Prop := decode code pc = .ok (.aload_n 0, 1) ∧ decode code (pc + 1) = .ok (.iload_n 3, 1) ∧ decode code (pc + 2) = .ok (.iconst n, 1) ∧ decode code (pc + 3) = .ok (.iadd, 1) ∧ decode code (pc + 4) = .ok (.iaload, 1)
abbrev rd6 (pc : Nat) (n : Int) : Prop := decode code pc = .ok (.aload_n 0, 1) ∧ decode code (pc + 1) = .ok (.iload_n 3, 1) ∧ decode code (pc + 2) = .ok (.bipush n, 2) ∧ decode code (pc + 4) = .ok (.iadd, 1) ∧ decode code (pc + 5) = .ok (.iaload, 1)
abbrev bo8 (pc : Nat) : Prop := decode code pc = .ok (.ifCond .eq 7, 3) ∧ decode code (pc + 3) = .ok (.iconst 1, 1) ∧ decode code (pc + 4) = .ok (.goto 4, 3) ∧ decode code (pc + 7) = .ok (.iconst 0, 1)
def KW (kd len : Nat → Nat) (R : Nat → Int → Option Nat) : Prop := (∀ N, 288 ≤ N → zWC N kd len R 0) ∧ ∀ N, 288 ≤ N → zM N kd len R 262
theorem KW_w {kd len : Nat → Nat} {R R1 : Nat → Int → Option Nat} (w : wcK R R1 0) (h : KW kd len R) : KW kd len R1 :=
  ⟨fun N hN => w.1 N kd len (h.1 N hN), fun N hN => zM_R (w.2 262 (Or.inr (by decide))) (h.2 N hN)⟩
section LWR
variable {p : Program} {l : Launch} {e : Env} {R0 : Room} {s : State} {m : MethodId} {below : List Frame} {meth : Method} {c : Code} {H : Heap} {locs : List Loc} {cells slots : Nat} {Q : State → Prop} {ls : Array Slot} {D : va_G} {cy : Nat → ClassId} {b L i pc : Nat} {xs : Nat → Int32} {rest : List Value}
theorem lw_ix (hX : va_X b L xs s s.heap) (hb : b < s.heap.size) (hS : va_S (zA s.heap.size) s.heap H locs) (C : zC p m c code 4 s #[Value.ref b] R_law D cy) {j : Nat} (hj : j < L) (hL : L ≤ 3584) (d : decode code pc = .ok (.iaload, 1)) (kk : W p l e R0 s m #[Value.ref b] below meth c H locs cells slots Q (F0 m (pc + 1) ls (.int (zI (sv xs j)) :: rest))) : W p l e R0 s m #[Value.ref b] below meth c H locs cells slots Q (F0 m pc ls (.int (zI (j : Int)) :: .ref b :: rest)) := by
  have hn : (zI (j : Int)).toNatClampNeg = j := zn_nat (by omega)
  have hin : vp_in (zI (j : Int)) L := by
    intro q
    rcases q with q | q
    · exact zn_neg (n := j) (by omega) q
    · rw [hn] at q
      omega
  refine va_sld C.1 C.2.1 hX hb (fun q => absurd q (Nat.not_le.mpr hb)) hS hin d ?_
  rw [hn]
  have e : zI (sv xs j) = xs j := zI_of _
  rw [e] at kk
  exact kk
theorem lw_rd5 (C : zC p m c code 4 s #[Value.ref b] R_law D cy) (hX : va_X b L xs s s.heap) (hb : b < s.heap.size) (hS : va_S (zA s.heap.size) s.heap H locs) {j : Nat} {n : Int} (hn : n = (j : Int)) (hj : i + j < L) (hL : L ≤ 3584) (hl : lv_has ls 4 [(3, .int (zI (i : Int))), (2, .ref (s.heap.size + 262)), (1, .ref (s.heap.size + 0)), (0, .ref b)]) (d : rd5 pc n) (kk : W p l e R0 s m #[Value.ref b] below meth c H locs cells slots Q (F0 m (pc + 5) ls (.int (zI (sv xs (i + j))) :: rest))) : W p l e R0 s m #[Value.ref b] below meth c H locs cells slots Q (F0 m pc ls rest) := by
  refine lv_aload_n C.1 C.2.1 d.1 rfl (lv_at hl 3 rfl) ?_
  refine lv_iload_n C.1 C.2.1 d.2.1 rfl (lv_at hl 0 rfl) ?_
  refine zd_iconst C d.2.2.1 ?_
  refine zd_iadd C d.2.2.2.1 ?_
  rw [show (i : Int) + n = ((i + j : Nat) : Int) by omega]
  exact lw_ix hX hb hS C hj hL d.2.2.2.2 kk
theorem lw_rd6 (C : zC p m c code 4 s #[Value.ref b] R_law D cy) (hX : va_X b L xs s s.heap) (hb : b < s.heap.size) (hS : va_S (zA s.heap.size) s.heap H locs) {j : Nat} {n : Int} (hn : n = (j : Int)) (hj : i + j < L) (hL : L ≤ 3584) (hl : lv_has ls 4 [(3, .int (zI (i : Int))), (2, .ref (s.heap.size + 262)), (1, .ref (s.heap.size + 0)), (0, .ref b)]) (d : rd6 pc n) (hb8 : (Int8.ofInt n).toInt32 = zI n) (kk : W p l e R0 s m #[Value.ref b] below meth c H locs cells slots Q (F0 m (pc + 6) ls (.int (zI (sv xs (i + j))) :: rest))) : W p l e R0 s m #[Value.ref b] below meth c H locs cells slots Q (F0 m pc ls rest) := by
  refine lv_aload_n C.1 C.2.1 d.1 rfl (lv_at hl 3 rfl) ?_
  refine lv_iload_n C.1 C.2.1 d.2.1 rfl (lv_at hl 0 rfl) ?_
  refine zd_bipush C hb8 d.2.2.1 ?_
  refine zd_iadd C d.2.2.2.1 ?_
  rw [show (i : Int) + n = ((i + j : Nat) : Int) by omega]
  exact lw_ix hX hb hS C hj hL d.2.2.2.2 kk
theorem lw_bo (C : zC p m c code 4 s #[Value.ref b] R_law D cy) {v : Int} (hv : rI v) (d : bo8 pc) (kk : W p l e R0 s m #[Value.ref b] below meth c H locs cells slots Q (F0 m (pc + 8) ls (.int (zI (bz (decide (v ≠ 0)))) :: rest))) : W p l e R0 s m #[Value.ref b] below meth c H locs cells slots Q (F0 m pc ls (.int (zI v) :: rest)) := by
  refine zd_if_eq C hv (pc + 7) d.1 (by omega) (fun q => ?_) (fun q => ?_)
  · refine zd_iconst C d.2.2.2 ?_
    rw [decide_eq_false (fun g => g q)] at kk
    exact kk
  · refine zd_iconst C d.2.1 ?_
    refine lv_goto (tgt := pc + 8) C.1 C.2.1 d.2.2.1 (by omega) ?_
    rw [decide_eq_true q] at kk
    exact kk
end LWR
theorem and_31 (s : Int) : 0 ≤ zAnd s 31 ∧ zAnd s 31 < 32 := by
  have a : zAnd s 31 = ((zI s &&& 31).toInt) := rfl
  have b : zI s &&& 31 = Int32.ofNat ((zI s).toBitVec.toNat &&& 31) := by
    apply Int32.toBitVec_inj.mp
    apply BitVec.eq_of_toNat_eq
    rw [Int32.toBitVec_and, BitVec.toNat_and]
    show _ = (BitVec.ofNat 32 _).toNat
    rw [BitVec.toNat_ofNat, Nat.mod_eq_of_lt (Nat.lt_of_le_of_lt Nat.and_le_right (by decide))]
    rfl
  have c : (zI s).toBitVec.toNat &&& 31 ≤ 31 := Nat.and_le_right
  rw [a, b, Int32.toInt_ofNat_of_lt (by omega)]
  exact ⟨by omega, by omega⟩
section LWI
variable {X X1 : Nat → Int → Int}
theorem LI_n (I : LI X) : 0 ≤ X (0 + 1) 1 ∧ X (0 + 1) 1 ≤ 600 := by
  have e : X (0 + 1) 1 = X 264 0 := I.1.1.1.1
  rw [e]
  exact I.2.2.2.2.1 0 (by decide) (by decide)
theorem LI_p (I : LI X) : oTp X 262 := I.2.2.2.2.1 0 (by decide) (by decide)
theorem LI_cn (I : LI X) : ∀ y : Int, 0 ≤ y → y < 5 → 0 ≤ X (262 + 5) y ∧ X (262 + 5) y ≤ 2 := fun y h0 h1 => by
  have := I.1.2.1 y h0 h1
  rw [show (5 : Int) * 0 + y = y by omega] at this
  exact this
theorem LI_m (I : LI X) : ∀ y : Int, 0 ≤ y → y < 5 → 0 ≤ X (0 + 3) y ∧ X (0 + 3) y ≤ 2 := fun y h0 h1 => by
  have e := I.1.1.2.2.1 y h0 h1
  rw [show (5 : Int) * 0 + y = y by omega] at e
  rw [show X (0 + 3) y = X (262 + 5) y from e]
  exact LI_cn I y h0 h1
theorem LI_at (I : LI X) : ∀ z y : Int, 0 ≤ z → z < 3 → 0 ≤ y → y < 600 → -128 ≤ X (0 + 36 + 34 * z.toNat + 1) y ∧ X (0 + 36 + 34 * z.toNat + 1) y ≤ 127 := fun z y z0 z1 y0 y1 => by
  rw [show 0 + 36 + 34 * z.toNat + 1 = 36 + 34 * z.toNat + 1 by omega]
  exact I.2.2.2.1.2.1 z.toNat (by omega) y y0 y1
theorem LI_c (I : LI X) (e : X1 = zU X 262 0 0) : LI X1 :=
  LI_fr I (fun z hz => by rw [e, zU_o (by omega)]) (chI_e I.2.2.2.2.2.2 ⟨by rw [e, zU_o (by decide)], by rw [e, zU_o (by decide)]⟩) (fun z z0 z1 => by rw [e, zU_o (by omega)]) (by rw [e, zU_o (by decide)])
theorem oTb_o (h : ∀ z, 262 ≤ z → X1 z = X z) (b : oTb X 262) : oTb X1 262 := fun y h0 h1 => by
  rw [h (262 + 1) (by decide)]
  exact b y h0 h1
theorem oTp_o (h : ∀ z, 262 ≤ z → X1 z = X z) (b : oTp X 262) : oTp X1 262 := by
  unfold oTp
  rw [h (262 + 2) (by decide)]
  exact b
theorem cnt_o (h : ∀ z, 262 ≤ z → X1 z = X z) (I : LI X) : ∀ y : Int, 0 ≤ y → y < 5 → 0 ≤ X1 (262 + 5) y ∧ X1 (262 + 5) y ≤ 2 := fun y h0 h1 => by
  rw [h (262 + 5) (by decide)]
  exact LI_cn I y h0 h1
theorem feed_o {r a b g d f : Int} (k : if X (0 + 1) 1 ≤ 580 then r = X (0 + 1) 1 + 20 ∧ (∀ z, z ≠ 0 + 1 → z ≠ 0 + 2 → X1 z = X z) ∧ (∀ s, s ≠ 1 → X1 (0 + 1) s = X (0 + 1) s) ∧ X1 (0 + 1) 1 = X (0 + 1) 1 + 20 ∧ X1 (0 + 2) = frA (X (0 + 2)) (X (0 + 1) 1) a b g d f else r = -1 ∧ X1 = X) : ∀ z, 262 ≤ z → X1 z = X z := fun z hz => by
  split at k
  · exact k.2.1 z (by omega) (by omega)
  · rw [k.2]
theorem end_o {r a : Int} (k : if 0 ≤ a ∧ a ≤ X (0 + 1) 1 then r = a ∧ X1 = zU X (0 + 1) 1 a else r = -1 ∧ X1 = X) : ∀ z, 262 ≤ z → X1 z = X z := fun z hz => by
  split at k
  · rw [k.2, zU_o (by omega)]
  · rw [k.2]
theorem image_o {r a : Int} (k : ∃ rb : Bool, r = bz rb ∧ (rb = decide (0 ≤ a ∧ a < 3) ∧ (rb = false → X1 = X) ∧ (rb = true → ∃ X2, cpT X X2 (0 + 36 + 34 * a.toNat) (0 + 1) ∧ X1 = zU X2 (0 + 138) a 1))) : ∀ z, 262 ≤ z → X1 z = X z := fun z hz => by
  obtain ⟨rb, -, hb, kf, kt⟩ := k
  cases rb with
  | false => rw [kf rfl]
  | true =>
    obtain ⟨X2, ct, e⟩ := kt rfl
    have c := of_decide_eq_true hb.symm
    obtain ⟨-, -, -, -, -, -, f⟩ := ct
    rw [e, zU_o (by omega)]
    exact f z (Or.inr (by omega))
theorem again_o {r a : Int} (k : ∃ rb : Bool, r = bz rb ∧ (rb = decide ((0 ≤ a ∧ a < 3) ∧ X (0 + 138) a ≠ 0) ∧ (rb = false → X1 = X) ∧ (rb = true → cpT X X1 (0 + 1) (0 + 36 + 34 * a.toNat)))) : ∀ z, 262 ≤ z → X1 z = X z := fun z hz => by
  obtain ⟨rb, -, hb, kf, kt⟩ := k
  cases rb with
  | false => rw [kf rfl]
  | true =>
    obtain ⟨-, -, -, -, -, -, f⟩ := kt rfl
    exact f z (Or.inr (by omega))
theorem txC_o {a b r : Int} (I : LI X) (k : txC X X1 0 a b r) : ∀ z, 262 ≤ z → X1 z = X z := fun z hz => by
  have hb := LI_cn I
  have hc : ∀ s : Int, 0 ≤ s → s < 5 → X (1 + 2) s = X (262 + 5) s := fun s s0 s1 => by
    have := I.1.1.2.2.1 s s0 s1
    rw [show (5 : Int) * 0 + s = s by omega] at this
    exact this
  unfold txC at k
  simp only [Nat.zero_add] at k
  by_cases c : cPf X 1 a b = -1
  · rw [(k.1 c).2, zU_o (by omega), zU_o (by omega), zU_o (by omega)]
  · obtain ⟨Xc, X3, f1, -, -, -, e3, g1, g2⟩ := k.2 c
    have o3 : X3 z = X z := by rw [e3, zU_o (by omega), zU_o (by omega), zU_o (by omega), f1 z (by omega)]
    obtain ⟨-, ba, -, bb, -⟩ := (txB_c hc hb).2 c
    by_cases q : Xc 139 3 = 0
    · obtain ⟨rr, X4, ex, tk⟩ := g2 q
      rw [ex, zU_o (by omega), tkP_f ba (by rw [rr]; exact bb) tk z (by omega), o3]
    · rw [(g1 q).2, o3]
end LWI

