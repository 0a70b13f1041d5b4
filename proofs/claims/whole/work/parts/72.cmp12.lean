/-! STATIC ROWS; ARRAYS OF REFERENCES; THE CHART'S CELLS -/
theorem nlF_rg (j : Nat) : rI (nlF j) := by
  match j with
  | 0 | 1 | 2 | 3 | 4 | 5 | 6 => decide
  | k + 7 => exact (show rI 0 by decide)
theorem nmF_rg (j : Nat) : rI (nmF j) := by
  match j with
  | 0 | 1 | 2 | 3 | 4 | 5 | 6 => decide
  | k + 7 => exact (show rI 0 by decide)
section ZS9
variable {p : Program} {l : Launch} {e : Env} {R0 : Room} {s : State} {m : MethodId} {args : Array Value} {below : List Frame} {meth : Method} {c : Code} {H : Heap} {locs : List Loc} {cells slots : Nat} {Q : State → Prop}
variable {cc : ByteArray} {pc nL : Nat} {ls : Array Slot} {rest : List Value} {D : va_G} {cy : Nat → ClassId} {own : String} {bs N : Nat} {sa : Nat → Nat} {kd len : Nat → Nat} {X Y : Nat → Int → Int} {R : Nat → Int → Option Nat} {H0 : Heap}
theorem zd_gets (C : zC p m c cc nL s args own D cy) (hE : zE D cy bs sa s) (hS : va_S (zA bs) s.heap H locs) {C9 n9 : String} {k t ix : Nat} {f : Nat → Int} (hZ : zS1 C9 n9 k t f bs s s.heap) (hlk : Cond.fieldLink own ix C9 n9 "[I" ∈ zTB) (hdg : decode cc pc = .ok (.getstatic ix, 3))
    (kk : W p l e R0 s m args below meth c H locs cells slots Q (F0 m (pc + 3) ls (.ref t :: rest))) : W p l e R0 s m args below meth c H locs cells slots Q (F0 m pc ls rest) :=
  va_gets C.1 C.2.1 hZ.1 hS C.2.2.2.1 (C.2.2.2.2.1 _ hlk) (fun _ h => h) hdg kk
theorem zd_getsN (C : zC p m c cc nL s args own D cy) (hE : zE D cy bs sa s) (hS : va_S (zA bs) s.heap H locs) {C9 n9 host : String} {k t ix : Nat} {f : Nat → Int} (hlk : Cond.fieldLinkNest own ix C9 n9 "[I" host ∈ zNest) (hZ : zS1 C9 n9 k t f bs s s.heap) (hdg : decode cc pc = .ok (.getstatic ix, 3))
    (kk : W p l e R0 s m args below meth c H locs cells slots Q (F0 m (pc + 3) ls (.ref t :: rest))) : W p l e R0 s m args below meth c H locs cells slots Q (F0 m pc ls rest) :=
  va_getsN C.1 C.2.1 hZ.1 hS C.2.2.2.1 (va_Nw.use rfl (hE.2.1 _ hlk)) (fun _ h => h) hdg kk
theorem zd_tald (C : zC p m c cc nL s args own D cy) (hS : va_S (zA bs) s.heap H locs) {C9 n9 : String} {k t : Nat} {f : Nat → Int} (hZ : zS1 C9 n9 k t f bs s s.heap) {z : Int} (h0 : 0 ≤ z) (h1 : z < k) (hk : k < 2147483648 := by decide) (hdg : decode cc pc = .ok (.iaload, 1))
    (kk : W p l e R0 s m args below meth c H locs cells slots Q (F0 m (pc + 1) ls (.int (zI (f z.toNat)) :: rest))) : W p l e R0 s m args below meth c H locs cells slots Q (F0 m pc ls (.int (zI z) :: .ref t :: rest)) :=
  va_ti C.1 C.2.1 hZ.2 hS (zI_in h0 h1 hk) (by rw [zI_clamp ⟨by omega, by omega⟩]) hdg kk
theorem zd_tlen (C : zC p m c cc nL s args own D cy) (hS : va_S (zA bs) s.heap H locs) {C9 n9 : String} {k t : Nat} {f : Nat → Int} (hZ : zS1 C9 n9 k t f bs s s.heap) (hdg : decode cc pc = .ok (.arraylength, 1))
    (kk : W p l e R0 s m args below meth c H locs cells slots Q (F0 m (pc + 1) ls (.int (zI k) :: rest))) : W p l e R0 s m args below meth c H locs cells slots Q (F0 m pc ls (.ref t :: rest)) :=
  va_tlen C.1 C.2.1 hZ.2 hS (Int32.ofInt_eq_ofNat).symm hdg kk
theorem zd_taldN (C : zC p m c cc nL s args own D cy) (hS : va_S (zA bs) s.heap H locs) {C9 n9 : String} {k t : Nat} (hZ : zS1 C9 n9 k t (fun j => (j : Int)) bs s s.heap) {z : Int} (h0 : 0 ≤ z) (h1 : z < k) (hk : k < 2147483648 := by decide) (hdg : decode cc pc = .ok (.iaload, 1))
    (kk : W p l e R0 s m args below meth c H locs cells slots Q (F0 m (pc + 1) ls (.int (zI z) :: rest))) : W p l e R0 s m args below meth c H locs cells slots Q (F0 m pc ls (.int (zI z) :: .ref t :: rest)) := by
  refine zd_tald C hS hZ h0 h1 hk hdg ?_
  rw [Int.toNat_of_nonneg h0]
  exact kk
theorem zd_aaldr (C : zC p m c cc nL s args own D cy) (hH : zH D cy bs N kd len X Y R H) {i : Nat} (hi : i < N) (t0 : Nat) {ty : FieldType} (ht : (zty cy)[t0]? = some (cy t0, ty)) (hty : ty.isReference = true) (hk : zc cy bs (kd i) (len i) (X i) (Y i) (R i) = .inl (cy t0, len i, .inr (.inr (.inr (.inr (fun j => (R i j).map (bs + ·))))))) {z : Int} (h0 : 0 ≤ z) (h1 : z < len i) (hn : len i < 2147483648) {j : Nat} (hr : R i z = some j) (hdg : decode cc pc = .ok (.aaload, 1))
    (kk : W p l e R0 s m args below meth c H locs cells slots Q (F0 m (pc + 1) ls (.ref (bs + j) :: rest))) : W p l e R0 s m args below meth c H locs cells slots Q (F0 m pc ls (.int (zI z) :: .ref (bs + i) :: rest)) := by
  refine zd_aald C hH hi t0 hty ht hk h0 h1 hn hdg ?_
  rw [hr]
  exact kk
end ZS9
/-- the net and the blocks that a chart is of -/
def cn (R : Nat → Int → Option Nat) (i : Nat) : Nat := (R i 0).getD 0
def cb (R : Nat → Int → Option Nat) (i : Nat) : Nat := (R i 1).getD 0
def zChart (N : Nat) (kd len : Nat → Nat) (R : Nat → Int → Option Nat) (i : Nat) : Prop := i + 46 < N ∧ kd i = 1 ∧ kd (i + 9) = 13 ∧ len (i + 9) = 15 ∧ R i 4 = some (i + 9) ∧ kd (i + 10) = 13 ∧ len (i + 10) = 15 ∧ R i 5 = some (i + 10) ∧ kd (i + 11) = 13 ∧ len (i + 11) = 15 ∧ R i 6 = some (i + 11) ∧ kd (i + 12) = 14 ∧ len (i + 12) = 15 ∧ R i 7 = some (i + 12) ∧ kd (i + 13) = 14 ∧ len (i + 13) = 15 ∧ R i 8 = some (i + 13) ∧ kd (i + 15) = 14 ∧ len (i + 15) = 15 ∧ R i 10 = some (i + 15) ∧ kd (i + 16) = 13 ∧ len (i + 16) = 15 ∧ R i 11 = some (i + 16) ∧ kd (i + 14) = 17 ∧ len (i + 14) = 15 ∧ R i 9 = some (i + 14) ∧ (∀ z : Int, 0 ≤ z → z < 15 → R (i + 14) z = some (i + 17 + 2 * z.toNat) ∧ zLedger N kd len R (i + 17 + 2 * z.toNat)) ∧ (R i 0 = some (cn R i) ∧ zNet N kd len R (cn R i)) ∧ (R i 1 = some (cb R i) ∧ zBlocks N kd len R (cb R i))
theorem zChart_n0 {N : Nat} {kd len : Nat → Nat} {R : Nat → Int → Option Nat} {i : Nat} (h : zChart N kd len R i) : i < N := by have := h.1; omega
theorem zChart_k0 {N : Nat} {kd len : Nat → Nat} {R : Nat → Int → Option Nat} {i : Nat} (h : zChart N kd len R i) : kd i = 1 := h.2.1
theorem zChart_n9 {N : Nat} {kd len : Nat → Nat} {R : Nat → Int → Option Nat} {i : Nat} (h : zChart N kd len R i) : i + 9 < N := by have := h.1; omega
theorem zChart_k9 {N : Nat} {kd len : Nat → Nat} {R : Nat → Int → Option Nat} {i : Nat} (h : zChart N kd len R i) : kd (i + 9) = 13 := h.2.2.1
theorem zChart_l9 {N : Nat} {kd len : Nat → Nat} {R : Nat → Int → Option Nat} {i : Nat} (h : zChart N kd len R i) : len (i + 9) = 15 := h.2.2.2.1
theorem zChart_r9 {N : Nat} {kd len : Nat → Nat} {R : Nat → Int → Option Nat} {i : Nat} (h : zChart N kd len R i) : R i 4 = some (i + 9) := h.2.2.2.2.1
theorem zChart_n10 {N : Nat} {kd len : Nat → Nat} {R : Nat → Int → Option Nat} {i : Nat} (h : zChart N kd len R i) : i + 10 < N := by have := h.1; omega
theorem zChart_k10 {N : Nat} {kd len : Nat → Nat} {R : Nat → Int → Option Nat} {i : Nat} (h : zChart N kd len R i) : kd (i + 10) = 13 := h.2.2.2.2.2.1
theorem zChart_l10 {N : Nat} {kd len : Nat → Nat} {R : Nat → Int → Option Nat} {i : Nat} (h : zChart N kd len R i) : len (i + 10) = 15 := h.2.2.2.2.2.2.1
theorem zChart_r10 {N : Nat} {kd len : Nat → Nat} {R : Nat → Int → Option Nat} {i : Nat} (h : zChart N kd len R i) : R i 5 = some (i + 10) := h.2.2.2.2.2.2.2.1
theorem zChart_n11 {N : Nat} {kd len : Nat → Nat} {R : Nat → Int → Option Nat} {i : Nat} (h : zChart N kd len R i) : i + 11 < N := by have := h.1; omega
theorem zChart_k11 {N : Nat} {kd len : Nat → Nat} {R : Nat → Int → Option Nat} {i : Nat} (h : zChart N kd len R i) : kd (i + 11) = 13 := h.2.2.2.2.2.2.2.2.1
theorem zChart_l11 {N : Nat} {kd len : Nat → Nat} {R : Nat → Int → Option Nat} {i : Nat} (h : zChart N kd len R i) : len (i + 11) = 15 := h.2.2.2.2.2.2.2.2.2.1
theorem zChart_r11 {N : Nat} {kd len : Nat → Nat} {R : Nat → Int → Option Nat} {i : Nat} (h : zChart N kd len R i) : R i 6 = some (i + 11) := h.2.2.2.2.2.2.2.2.2.2.1
theorem zChart_n12 {N : Nat} {kd len : Nat → Nat} {R : Nat → Int → Option Nat} {i : Nat} (h : zChart N kd len R i) : i + 12 < N := by have := h.1; omega
theorem zChart_k12 {N : Nat} {kd len : Nat → Nat} {R : Nat → Int → Option Nat} {i : Nat} (h : zChart N kd len R i) : kd (i + 12) = 14 := h.2.2.2.2.2.2.2.2.2.2.2.1
theorem zChart_l12 {N : Nat} {kd len : Nat → Nat} {R : Nat → Int → Option Nat} {i : Nat} (h : zChart N kd len R i) : len (i + 12) = 15 := h.2.2.2.2.2.2.2.2.2.2.2.2.1
theorem zChart_r12 {N : Nat} {kd len : Nat → Nat} {R : Nat → Int → Option Nat} {i : Nat} (h : zChart N kd len R i) : R i 7 = some (i + 12) := h.2.2.2.2.2.2.2.2.2.2.2.2.2.1
theorem zChart_n13 {N : Nat} {kd len : Nat → Nat} {R : Nat → Int → Option Nat} {i : Nat} (h : zChart N kd len R i) : i + 13 < N := by have := h.1; omega
theorem zChart_k13 {N : Nat} {kd len : Nat → Nat} {R : Nat → Int → Option Nat} {i : Nat} (h : zChart N kd len R i) : kd (i + 13) = 14 := h.2.2.2.2.2.2.2.2.2.2.2.2.2.2.1
theorem zChart_l13 {N : Nat} {kd len : Nat → Nat} {R : Nat → Int → Option Nat} {i : Nat} (h : zChart N kd len R i) : len (i + 13) = 15 := h.2.2.2.2.2.2.2.2.2.2.2.2.2.2.2.1
theorem zChart_r13 {N : Nat} {kd len : Nat → Nat} {R : Nat → Int → Option Nat} {i : Nat} (h : zChart N kd len R i) : R i 8 = some (i + 13) := h.2.2.2.2.2.2.2.2.2.2.2.2.2.2.2.2.1
theorem zChart_n15 {N : Nat} {kd len : Nat → Nat} {R : Nat → Int → Option Nat} {i : Nat} (h : zChart N kd len R i) : i + 15 < N := by have := h.1; omega
theorem zChart_k15 {N : Nat} {kd len : Nat → Nat} {R : Nat → Int → Option Nat} {i : Nat} (h : zChart N kd len R i) : kd (i + 15) = 14 := h.2.2.2.2.2.2.2.2.2.2.2.2.2.2.2.2.2.1
theorem zChart_l15 {N : Nat} {kd len : Nat → Nat} {R : Nat → Int → Option Nat} {i : Nat} (h : zChart N kd len R i) : len (i + 15) = 15 := h.2.2.2.2.2.2.2.2.2.2.2.2.2.2.2.2.2.2.1
theorem zChart_r15 {N : Nat} {kd len : Nat → Nat} {R : Nat → Int → Option Nat} {i : Nat} (h : zChart N kd len R i) : R i 10 = some (i + 15) := h.2.2.2.2.2.2.2.2.2.2.2.2.2.2.2.2.2.2.2.1
theorem zChart_n16 {N : Nat} {kd len : Nat → Nat} {R : Nat → Int → Option Nat} {i : Nat} (h : zChart N kd len R i) : i + 16 < N := by have := h.1; omega
theorem zChart_k16 {N : Nat} {kd len : Nat → Nat} {R : Nat → Int → Option Nat} {i : Nat} (h : zChart N kd len R i) : kd (i + 16) = 13 := h.2.2.2.2.2.2.2.2.2.2.2.2.2.2.2.2.2.2.2.2.1
theorem zChart_l16 {N : Nat} {kd len : Nat → Nat} {R : Nat → Int → Option Nat} {i : Nat} (h : zChart N kd len R i) : len (i + 16) = 15 := h.2.2.2.2.2.2.2.2.2.2.2.2.2.2.2.2.2.2.2.2.2.1
theorem zChart_r16 {N : Nat} {kd len : Nat → Nat} {R : Nat → Int → Option Nat} {i : Nat} (h : zChart N kd len R i) : R i 11 = some (i + 16) := h.2.2.2.2.2.2.2.2.2.2.2.2.2.2.2.2.2.2.2.2.2.2.1
theorem zChart_n14 {N : Nat} {kd len : Nat → Nat} {R : Nat → Int → Option Nat} {i : Nat} (h : zChart N kd len R i) : i + 14 < N := by have := h.1; omega
theorem zChart_k14 {N : Nat} {kd len : Nat → Nat} {R : Nat → Int → Option Nat} {i : Nat} (h : zChart N kd len R i) : kd (i + 14) = 17 := h.2.2.2.2.2.2.2.2.2.2.2.2.2.2.2.2.2.2.2.2.2.2.2.1
theorem zChart_l14 {N : Nat} {kd len : Nat → Nat} {R : Nat → Int → Option Nat} {i : Nat} (h : zChart N kd len R i) : len (i + 14) = 15 := h.2.2.2.2.2.2.2.2.2.2.2.2.2.2.2.2.2.2.2.2.2.2.2.2.1
theorem zChart_r14 {N : Nat} {kd len : Nat → Nat} {R : Nat → Int → Option Nat} {i : Nat} (h : zChart N kd len R i) : R i 9 = some (i + 14) := h.2.2.2.2.2.2.2.2.2.2.2.2.2.2.2.2.2.2.2.2.2.2.2.2.2.1
theorem zChart_lg {N : Nat} {kd len : Nat → Nat} {R : Nat → Int → Option Nat} {i : Nat} (h : zChart N kd len R i) {z : Int} (h0 : 0 ≤ z) (h1 : z < 15) : R (i + 14) z = some (i + 17 + 2 * z.toNat) ∧ zLedger N kd len R (i + 17 + 2 * z.toNat) := h.2.2.2.2.2.2.2.2.2.2.2.2.2.2.2.2.2.2.2.2.2.2.2.2.2.2.1 z h0 h1
theorem zChart_net {N : Nat} {kd len : Nat → Nat} {R : Nat → Int → Option Nat} {i : Nat} (h : zChart N kd len R i) : R i 0 = some (cn R i) ∧ zNet N kd len R (cn R i) := h.2.2.2.2.2.2.2.2.2.2.2.2.2.2.2.2.2.2.2.2.2.2.2.2.2.2.2.1
theorem zChart_blk {N : Nat} {kd len : Nat → Nat} {R : Nat → Int → Option Nat} {i : Nat} (h : zChart N kd len R i) : R i 1 = some (cb R i) ∧ zBlocks N kd len R (cb R i) := h.2.2.2.2.2.2.2.2.2.2.2.2.2.2.2.2.2.2.2.2.2.2.2.2.2.2.2.2
theorem zU_R {α : Type} {R : Nat → Int → α} {a i : Nat} {s : Int} {v : α} (h : a ≠ i) : zU R i s v a = R a := zU_o h
theorem zNet_U {N : Nat} {kd len : Nat → Nat} {R R1 : Nat → Int → Option Nat} {n : Nat} (h : zNet N kd len R n) (e : R1 n = R n) : zNet N kd len R1 n := ⟨h.1, h.2.1, h.2.2.1, h.2.2.2.1, by rw [e]; exact h.2.2.2.2⟩
theorem zLedger_U {N : Nat} {kd len : Nat → Nat} {R R1 : Nat → Int → Option Nat} {n : Nat} (h : zLedger N kd len R n) (e : R1 n = R n) : zLedger N kd len R1 n := ⟨h.1, h.2.1, h.2.2.1, h.2.2.2.1, by rw [e]; exact h.2.2.2.2⟩
theorem zRows_U {N : Nat} {kd len : Nat → Nat} {R R1 : Nat → Int → Option Nat} {n nn : Nat} (h : zRows N kd len R n nn) (e : R1 n = R n) : zRows N kd len R1 n nn := ⟨h.1, h.2.1, h.2.2.1, h.2.2.2.1, by rw [e]; exact h.2.2.2.2⟩
theorem zBlocks_U {N : Nat} {kd len : Nat → Nat} {R R1 : Nat → Int → Option Nat} {n : Nat} (h : zBlocks N kd len R n) (e : R1 n = R n) : zBlocks N kd len R1 n := by
  unfold zBlocks at h ⊢
  rw [e]
  exact h
theorem zBlocks_kd {N : Nat} {kd len : Nat → Nat} {R : Nat → Int → Option Nat} {n : Nat} (h : zBlocks N kd len R n) : kd n = 0 := h.2.1
/-- another net, other blocks -/
theorem zChart_U {N : Nat} {kd len : Nat → Nat} {R R1 : Nat → Int → Option Nat} {i a b : Nat} (h : zChart N kd len R i) (e : ∀ z, z ≠ i → R1 z = R z) (e2 : ∀ s, s ≠ 0 → s ≠ 1 → R1 i s = R i s) (ha : R1 i 0 = some a) (hn : zNet N kd len R a) (hb : R1 i 1 = some b) (hk : zBlocks N kd len R b) : zChart N kd len R1 i := by
  have na : a ≠ i := fun g => by have := hn.2.1; rw [g, zChart_k0 h] at this; exact absurd this (by decide)
  have nb : b ≠ i := fun g => by have := hk.2.1; rw [g, zChart_k0 h] at this; exact absurd this (by decide)
  have hcn : cn R1 i = a := by unfold cn; rw [ha]; rfl
  have hcb : cb R1 i = b := by unfold cb; rw [hb]; rfl
  have hl : ∀ z : Int, 0 ≤ z → z < 15 → R1 (i + 14) z = some (i + 17 + 2 * z.toNat) ∧ zLedger N kd len R1 (i + 17 + 2 * z.toNat) := fun z h0 h1 => ⟨by rw [e (i + 14) (by omega)]; exact (zChart_lg h h0 h1).1, zLedger_U (zChart_lg h h0 h1).2 (e _ (by omega))⟩
  have hn' : R1 i 0 = some (cn R1 i) ∧ zNet N kd len R1 (cn R1 i) := by rw [hcn]; exact ⟨ha, zNet_U hn (e _ na)⟩
  have hk' : R1 i 1 = some (cb R1 i) ∧ zBlocks N kd len R1 (cb R1 i) := by rw [hcb]; exact ⟨hb, zBlocks_U hk (e _ nb)⟩
  refine ⟨h.1, h.2.1, zChart_k9 h, zChart_l9 h, (e2 _ (by decide) (by decide)).trans (zChart_r9 h), zChart_k10 h, zChart_l10 h, (e2 _ (by decide) (by decide)).trans (zChart_r10 h), zChart_k11 h, zChart_l11 h, (e2 _ (by decide) (by decide)).trans (zChart_r11 h), zChart_k12 h, zChart_l12 h, (e2 _ (by decide) (by decide)).trans (zChart_r12 h), zChart_k13 h, zChart_l13 h, (e2 _ (by decide) (by decide)).trans (zChart_r13 h), zChart_k15 h, zChart_l15 h, (e2 _ (by decide) (by decide)).trans (zChart_r15 h), zChart_k16 h, zChart_l16 h, (e2 _ (by decide) (by decide)).trans (zChart_r16 h), zChart_k14 h, zChart_l14 h, (e2 _ (by decide) (by decide)).trans (zChart_r14 h), hl, hn', hk'⟩
theorem zChart_putB {N : Nat} {kd len : Nat → Nat} {R R1 : Nat → Int → Option Nat} {i b : Nat} (h : zChart N kd len R i) (e : R1 = zU R i 1 (some b)) (hk : zBlocks N kd len R b) : zChart N kd len R1 i ∧ zBlocks N kd len R1 b :=
  have nb : b ≠ i := fun g => by have := hk.2.1; rw [g, zChart_k0 h] at this; exact absurd this (by decide)
  ⟨zChart_U h (fun z hz => by rw [e, zU_o hz]) (fun s _ h1 => by rw [e, zU_n (by omega)]) (by rw [e, zU_n (by omega)]; exact (zChart_net h).1) (zChart_net h).2 (by rw [e, zU_s]) hk, zBlocks_U hk (by rw [e, zU_o nb])⟩
theorem zChart_putN {N : Nat} {kd len : Nat → Nat} {R R1 : Nat → Int → Option Nat} {i b : Nat} (h : zChart N kd len R i) (e : R1 = zU R i 0 (some b)) (hk : zNet N kd len R b) : zChart N kd len R1 i ∧ zNet N kd len R1 b :=
  have nb : b ≠ i := fun g => by have := hk.2.1; rw [g, zChart_k0 h] at this; exact absurd this (by decide)
  ⟨zChart_U h (fun z hz => by rw [e, zU_o hz]) (fun s h1 _ => by rw [e, zU_n (by omega)]) (by rw [e, zU_s]) hk (by rw [e, zU_n (by omega)]; exact (zChart_blk h).1) (zChart_blk h).2, zNet_U hk (by rw [e, zU_o nb])⟩
theorem and_1 : ∀ a : Int, zAnd a 1 = 0 ∨ zAnd a 1 = 1 := fun a => by
  have e : zAnd a 1 = if zb a 0 then 1 else 0 := by
    refine zb_ext (zI_rg _) (by split <;> decide) fun k hk => ?_
    rw [zb_and, zb_1 k hk]
    by_cases h : k = 0
    · subst h
      cases h2 : zb a 0
      · rfl
      · rfl
    · rw [decide_eq_false h, Bool.and_false]
      cases h2 : zb a 0
      · exact (zb_0 k).symm
      · show _ = zb 1 k
        rw [zb_1 k hk, decide_eq_false h]
  rw [e]
  split
  · exact Or.inr rfl
  · exact Or.inl rfl
theorem has_0 {s k : Int} : mHas s k = false ↔ zAnd (zShr s k) 1 = 0 := by
  unfold mHas
  rw [decide_eq_false_iff_not]
  rcases and_1 (zShr s k) with h | h <;> rw [h] <;> decide
theorem has_1 {s k : Int} : mHas s k = true ↔ ¬ zAnd (zShr s k) 1 = 0 := by
  rw [← has_0, Bool.not_eq_false]
theorem isIn_has {s k : Int} (h0 : 0 ≤ k) (h1 : k < 15) : (decide (0 ≤ k ∧ k < 15) && decide (¬ zAnd (zShr s k) 1 = 0)) = mHas s k := by
  rw [decide_eq_true (show 0 ≤ k ∧ k < 15 from ⟨h0, h1⟩), Bool.true_and]
  cases h : mHas s k
  · exact decide_eq_false fun g => g (has_0.mp h)
  · exact decide_eq_true (has_1.mp h)
