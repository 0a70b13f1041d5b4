/-! NUMBERS: ints as whole numbers -/
def zI (z : Int) : Int32 := Int32.ofInt z
def zL (z : Int) : Int64 := Int64.ofInt z
abbrev rI (z : Int) : Prop := -2147483648 ≤ z ∧ z ≤ 2147483647
abbrev rL (z : Int) : Prop := -9223372036854775808 ≤ z ∧ z ≤ 9223372036854775807
theorem zI_toInt {z : Int} (h : rI z) : (zI z).toInt = z := Int32.toInt_ofInt_of_le (by have := h.1; omega) (by have := h.2; omega)
theorem zL_toInt {z : Int} (h : rL z) : (zL z).toInt = z := Int64.toInt_ofInt_of_le (by have := h.1; omega) (by have := h.2; omega)
theorem zI_of (x : Int32) : zI x.toInt = x := Int32.ofInt_toInt x
theorem zL_of (x : Int64) : zL x.toInt = x := Int64.ofInt_toInt x
theorem zI_rg (x : Int32) : rI x.toInt := ⟨by have := Int32.le_toInt x; omega, by have := Int32.toInt_lt x; omega⟩
theorem zL_rg (x : Int64) : rL x.toInt := ⟨by have := Int64.le_toInt x; omega, by have := Int64.toInt_lt x; omega⟩
theorem zI_lt {a b : Int} (ha : rI a) (hb : rI b) : zI a < zI b ↔ a < b := by rw [Int32.lt_iff_toInt_lt, zI_toInt ha, zI_toInt hb]
theorem zI_le {a b : Int} (ha : rI a) (hb : rI b) : zI a ≤ zI b ↔ a ≤ b := by rw [Int32.le_iff_toInt_le, zI_toInt ha, zI_toInt hb]
theorem zI_eq {a b : Int} (ha : rI a) (hb : rI b) : zI a = zI b ↔ a = b := by
  constructor
  · intro h
    rw [← zI_toInt ha, ← zI_toInt hb, h]
  · intro h
    rw [h]
theorem zL_lt {a b : Int} (ha : rL a) (hb : rL b) : zL a < zL b ↔ a < b := by rw [Int64.lt_iff_toInt_lt, zL_toInt ha, zL_toInt hb]
theorem zL_eq {a b : Int} (ha : rL a) (hb : rL b) : zL a = zL b ↔ a = b := by
  constructor
  · intro h
    rw [← zL_toInt ha, ← zL_toInt hb, h]
  · intro h
    rw [h]
theorem zI_0 : (0 : Int32) = zI 0 := rfl
theorem zI_clamp {z : Int} (h : rI z) : (zI z).toNatClampNeg = z.toNat := by
  show (zI z).toInt.toNat = z.toNat
  rw [zI_toInt h]
theorem zI_in {z : Int} {n : Nat} (h0 : 0 ≤ z) (h : z < n) (hn : n < 2147483648) : vp_in (zI z) n := by
  rw [vp_in_iff, zI_toInt ⟨by omega, by omega⟩]
  exact ⟨h0, h⟩
theorem zI_idx {z : Int} {n : Nat} (h0 : 0 ≤ z) (h : z < n) (hn : n < 2147483648) : (((zI z).toNatClampNeg : Nat) : Int) = z := by
  rw [zI_clamp ⟨by omega, by omega⟩]
  omega
theorem zI_l {z : Int} (h : rI z) : (zI z).toInt64 = zL z := by
  apply Int64.toInt_inj.mp
  rw [Int32.toInt_toInt64, zI_toInt h, zL_toInt ⟨by have := h.1; omega, by have := h.2; omega⟩]
theorem zL_i (z : Int) : (zL z).toInt32 = zI z := Int64.toInt32_ofInt
/-! THE WORLD: cell i lies at bs + i; its kind kd i, its length len i; what it holds: ints X, longs Y, references R (places in the world) -/
/-- one place changed -/
def zU {α : Type} (X : Nat → Int → α) (i : Nat) (k : Int) (v : α) : Nat → Int → α := fun a b => if a = i ∧ b = k then v else X a b
theorem zU_s {α : Type} {X : Nat → Int → α} {i : Nat} {k : Int} {v : α} : zU X i k v i k = v := if_pos ⟨rfl, rfl⟩
theorem zU_n {α : Type} {X : Nat → Int → α} {i a : Nat} {k b : Int} {v : α} (h : ¬ (a = i ∧ b = k)) : zU X i k v a b = X a b := if_neg h
theorem zU_o {α : Type} {X : Nat → Int → α} {i a : Nat} {k : Int} {v : α} (h : a ≠ i) : zU X i k v a = X a := funext fun _ => if_neg fun q => h q.1
def zc (cy : Nat → ClassId) (bs k n : Nat) (X Y : Int → Int) (R : Int → Option Nat) : va_E := match k with
  | 0 => .inr (0, [.int (zI (X 0)), va_rf ((R 1).map (bs + ·)), va_rf ((R 2).map (bs + ·)), va_rf ((R 3).map (bs + ·)), va_rf ((R 4).map (bs + ·)), va_rf ((R 5).map (bs + ·))])
  | 1 => .inr (1, [va_rf ((R 0).map (bs + ·)), va_rf ((R 1).map (bs + ·)), .int (zI (X 2)), .int (zI (X 3)), va_rf ((R 4).map (bs + ·)), va_rf ((R 5).map (bs + ·)), va_rf ((R 6).map (bs + ·)), va_rf ((R 7).map (bs + ·)), va_rf ((R 8).map (bs + ·)), va_rf ((R 9).map (bs + ·)), va_rf ((R 10).map (bs + ·)), va_rf ((R 11).map (bs + ·))])
  | 2 => .inr (2, [va_rf ((R 0).map (bs + ·)), .int (zI (X 1)), .int (zI (X 2)), va_rf ((R 3).map (bs + ·)), .int (zI (X 4)), .int (zI (X 5)), .int (zI (X 6)), .int (zI (X 7)), .int (zI (X 8)), .int (zI (X 9)), .int (zI (X 10)), .int (zI (X 11)), .int (zI (X 12)), .int (zI (X 13)), .int (zI (X 14))])
  | 3 => .inr (3, [va_rf ((R 0).map (bs + ·)), va_rf ((R 1).map (bs + ·)), va_rf ((R 2).map (bs + ·)), va_rf ((R 3).map (bs + ·)), .int (zI (X 4)), .int (zI (X 5))])
  | 4 => .inr (4, [va_rf ((R 0).map (bs + ·)), va_rf ((R 1).map (bs + ·)), va_rf ((R 2).map (bs + ·)), va_rf ((R 3).map (bs + ·)), va_rf ((R 4).map (bs + ·)), .int (zI (X 5))])
  | 5 => .inr (5, [.int (zI (X 0)), va_rf ((R 1).map (bs + ·))])
  | 6 => .inr (6, [.int (zI (X 0)), .int (zI (X 1)), .int (zI (X 2)), .int (zI (X 3)), .int (zI (X 4)), .int (zI (X 5)), .int (zI (X 6)), va_rf ((R 7).map (bs + ·))])
  | 7 => .inr (7, [va_rf ((R 0).map (bs + ·)), va_rf ((R 1).map (bs + ·)), va_rf ((R 2).map (bs + ·)), .int (zI (X 3)), .int (zI (X 4)), va_rf ((R 5).map (bs + ·)), .int (zI (X 6)), .int (zI (X 7)), .int (zI (X 8)), .int (zI (X 9)), .int (zI (X 10)), va_rf ((R 11).map (bs + ·))])
  | 8 => .inr (8, [.int (zI (X 0)), .int (zI (X 1)), .int (zI (X 2)), va_rf ((R 3).map (bs + ·))])
  | 9 => .inr (9, [va_rf ((R 0).map (bs + ·)), .int (zI (X 1)), .int (zI (X 2)), .int (zI (X 3)), va_rf ((R 4).map (bs + ·)), va_rf ((R 5).map (bs + ·)), va_rf ((R 6).map (bs + ·)), va_rf ((R 7).map (bs + ·))])
  | 10 => .inr (10, [va_rf ((R 0).map (bs + ·)), va_rf ((R 1).map (bs + ·)), va_rf ((R 2).map (bs + ·)), va_rf ((R 3).map (bs + ·)), va_rf ((R 4).map (bs + ·)), va_rf ((R 5).map (bs + ·)), va_rf ((R 6).map (bs + ·)), va_rf ((R 7).map (bs + ·)), va_rf ((R 8).map (bs + ·))])
  | 11 => .inr (11, [.int (zI (X 0)), va_rf ((R 1).map (bs + ·)), va_rf ((R 2).map (bs + ·)), va_rf ((R 3).map (bs + ·)), va_rf ((R 4).map (bs + ·)), va_rf ((R 5).map (bs + ·)), va_rf ((R 6).map (bs + ·)), va_rf ((R 7).map (bs + ·)), va_rf ((R 8).map (bs + ·)), va_rf ((R 9).map (bs + ·)), va_rf ((R 10).map (bs + ·)), .int (zI (X 11)), .int (zI (X 12)), .int (zI (X 13)), .int (zI (X 14)), .int (zI (X 15)), .long (zL (Y 16)), .int (zI (X 17)), .int (zI (X 18)), .int (zI (X 19)), va_rf ((R 20).map (bs + ·)), va_rf ((R 21).map (bs + ·)), .int (zI (X 22)), .int (zI (X 23)), .int (zI (X 24)), .int (zI (X 25)), .int (zI (X 26)), .int (zI (X 27)), .int (zI (X 28)), .int (zI (X 29)), .int (zI (X 30)), va_rf ((R 31).map (bs + ·)), va_rf ((R 32).map (bs + ·)), va_rf ((R 33).map (bs + ·)), va_rf ((R 34).map (bs + ·)), .int (zI (X 35)), .int (zI (X 36)), .int (zI (X 37)), va_rf ((R 38).map (bs + ·)), va_rf ((R 39).map (bs + ·)), .int (zI (X 40)), .int (zI (X 41)), .int (zI (X 42)), .int (zI (X 43)), .int (zI (X 44)), .int (zI (X 45)), .int (zI (X 46)), .int (zI (X 47)), .int (zI (X 48)), va_rf ((R 49).map (bs + ·)), va_rf ((R 50).map (bs + ·)), .int (zI (X 51)), .int (zI (X 52)), va_rf ((R 53).map (bs + ·)), va_rf ((R 54).map (bs + ·)), .int (zI (X 55)), .int (zI (X 56)), .int (zI (X 57)), .int (zI (X 58)), .int (zI (X 59)), .int (zI (X 60)), .int (zI (X 61)), va_rf ((R 62).map (bs + ·)), va_rf ((R 63).map (bs + ·)), .int (zI (X 64)), va_rf ((R 65).map (bs + ·))])
  | 12 => .inl (cy 0, n, .inl (fun j => zI (X j)))
  | 13 => .inl (cy 1, n, .inl (fun j => zI (X j)))
  | 14 => .inl (cy 2, n, .inr (.inl (fun j => zL (Y j))))
  | 15 => .inl (cy 3, n, .inl (fun j => zI (X j)))
  | k + 16 => .inl (cy (k + 4), n, .inr (.inr (.inr (.inr (fun j => (R j).map (bs + ·))))))
def zty (cy : Nat → ClassId) : List (ClassId × FieldType) := [(cy 0, .byte), (cy 1, .int), (cy 2, .long), (cy 3, .boolean), (cy 4, .object RX0), (cy 5, .object RX5), (cy 6, .object RX6), (cy 7, .object RX8), (cy 8, .object RX9), (cy 9, .array .int)]
def zH (D : va_G) (cy : Nat → ClassId) (bs N : Nat) (kd len : Nat → Nat) (X Y : Nat → Int → Int) (R : Nat → Int → Option Nat) (H : Heap) : Prop :=
  H.size = bs + N ∧ (∀ i, i < N → va_at D vwCl (bs + i, zc cy bs (kd i) (len i) (X i) (Y i) (R i)) H) ∧ (∀ i j, rI (X i j)) ∧ ∀ i j, rL (Y i j)
theorem zU_rI {X : Nat → Int → Int} {i : Nat} {k v : Int} (h : ∀ i j, rI (X i j)) (hv : rI v) : ∀ a b, rI (zU X i k v a b) := by
  intro a b
  unfold zU
  split
  · exact hv
  · exact h a b
theorem zU_rL {X : Nat → Int → Int} {i : Nat} {k v : Int} (h : ∀ i j, rL (X i j)) (hv : rL v) : ∀ a b, rL (zU X i k v a b) := by
  intro a b
  unfold zU
  split
  · exact hv
  · exact h a b
/-- the cells that are the world's own -/
abbrev zA (bs : Nat) : Nat → Prop := fun q => bs ≤ q
theorem zH_one {D : va_G} {cy : Nat → ClassId} {bs N : Nat} {kd len : Nat → Nat} {X Y : Nat → Int → Int} {R : Nat → Int → Option Nat} {H : Heap} (h : zH D cy bs N kd len X Y R H) {i : Nat} (hi : i < N) {e : va_E} (he : zc cy bs (kd i) (len i) (X i) (Y i) (R i) = e) : va_P D vwCl [(bs + i, e)] H := by
  intro k q hk
  have h0 : k < 1 := (List.getElem?_eq_some_iff.mp hk).1
  rw [show k = 0 by omega] at hk
  cases hk
  rw [← he]
  exact h.2.1 i hi
theorem zH_put {D : va_G} {cy : Nat → ClassId} {bs N : Nat} {kd len : Nat → Nat} {X Y X' Y' : Nat → Int → Int} {R R' : Nat → Int → Option Nat} {H H1 : Heap} {i : Nat} (h : zH D cy bs N kd len X Y R H) (hoff : ∀ j, j ≠ i → X' j = X j ∧ Y' j = Y j ∧ R' j = R j) (z : H1.size = H.size) (oq : ∀ q : Nat, q ≠ bs + i → H1[q]? = H[q]?) (hX : ∀ i j, rI (X' i j)) (hY : ∀ i j, rL (Y' i j)) (hn : va_at D vwCl (bs + i, zc cy bs (kd i) (len i) (X' i) (Y' i) (R' i)) H1) : zH D cy bs N kd len X' Y' R' H1 := by
  refine ⟨z.trans h.1, fun j hj => ?_, hX, hY⟩
  by_cases e : j = i
  · rw [e]
    exact hn
  · obtain ⟨a, b, c⟩ := hoff j e
    rw [a, b, c]
    exact (h.2.1 j hj).kept (oq _ (by omega))
/-- what a walk stands on: the machine, the code, the words, the class, the tables -/
def zC (p : Program) (m : MethodId) (c : Code) (cc : ByteArray) (nL : Nat) (s : State) (args : Array Value) (own : String) (D : va_G) (cy : Nat → ClassId) : Prop :=
  p.tables.exec = Jvm.exec ∧ c.code = cc ∧ c.maxLocals = nL ∧ s.vm.findClass own = some m.cls ∧ (∀ w ∈ zTB, w.before args s = true) ∧ va_K D vwCl (zty cy) s
section ZR
variable {p : Program} {l : Launch} {e : Env} {R0 : Room} {s : State} {m : MethodId} {args : Array Value} {below : List Frame} {meth : Method} {c : Code} {H : Heap} {locs : List Loc} {cells slots : Nat} {Q : State → Prop}
variable {cc : ByteArray} {pc nL : Nat} {ls : Array Slot} {rest : List Value} {D : va_G} {cy : Nat → ClassId} {own : String} {bs N : Nat} {kd len : Nat → Nat} {X Y : Nat → Int → Int} {R : Nat → Int → Option Nat} {H0 : Heap}
/-- arrays of ints -/
theorem zd_iald (C : zC p m c cc nL s args own D cy) (hH : zH D cy bs N kd len X Y R H) {i : Nat} (hi : i < N) (hk : kd i = 13) {z : Int} (h0 : 0 ≤ z) (h1 : z < len i) (hn : len i < 2147483648) (hdg : decode cc pc = .ok (.iaload, 1))
    (kk : W p l e R0 s m args below meth c H locs cells slots Q (F0 m (pc + 1) ls (.int (zI (X i z)) :: rest))) : W p l e R0 s m args below meth c H locs cells slots Q (F0 m pc ls (.int (zI z) :: .ref (bs + i) :: rest)) := by
  refine va_iald (n := len i) (f := fun j => zI (X i j)) (cA := cy 1) C.1 C.2.1 C.2.2.2.2.2 (zH_one hH hi (by rw [hk]; rfl)) 0 1 rfl rfl (zI_in h0 h1 hn) hdg ?_
  rw [zI_idx h0 h1 hn]
  exact kk
theorem zd_bald (C : zC p m c cc nL s args own D cy) (hH : zH D cy bs N kd len X Y R H) {i : Nat} (hi : i < N) (hk : kd i = 12) {z : Int} (h0 : 0 ≤ z) (h1 : z < len i) (hn : len i < 2147483648) (hdg : decode cc pc = .ok (.baload, 1))
    (kk : W p l e R0 s m args below meth c H locs cells slots Q (F0 m (pc + 1) ls (.int (zI (X i z)) :: rest))) : W p l e R0 s m args below meth c H locs cells slots Q (F0 m pc ls (.int (zI z) :: .ref (bs + i) :: rest)) := by
  refine va_bald (n := len i) (f := fun j => zI (X i j)) (cA := cy 0) C.1 C.2.1 C.2.2.2.2.2 (zH_one hH hi (by rw [hk]; rfl)) 0 0 rfl rfl (zI_in h0 h1 hn) hdg ?_
  rw [zI_idx h0 h1 hn]
  exact kk
theorem zd_zald (C : zC p m c cc nL s args own D cy) (hH : zH D cy bs N kd len X Y R H) {i : Nat} (hi : i < N) (hk : kd i = 15) {z : Int} (h0 : 0 ≤ z) (h1 : z < len i) (hn : len i < 2147483648) (hdg : decode cc pc = .ok (.baload, 1))
    (kk : W p l e R0 s m args below meth c H locs cells slots Q (F0 m (pc + 1) ls (.int (zI (X i z)) :: rest))) : W p l e R0 s m args below meth c H locs cells slots Q (F0 m pc ls (.int (zI z) :: .ref (bs + i) :: rest)) := by
  refine va_zald (n := len i) (f := fun j => zI (X i j)) (cA := cy 3) C.1 C.2.1 C.2.2.2.2.2 (zH_one hH hi (by rw [hk]; rfl)) 0 3 rfl rfl (zI_in h0 h1 hn) hdg ?_
  rw [zI_idx h0 h1 hn]
  exact kk
theorem zd_lald (C : zC p m c cc nL s args own D cy) (hH : zH D cy bs N kd len X Y R H) {i : Nat} (hi : i < N) (hk : kd i = 14) {z : Int} (h0 : 0 ≤ z) (h1 : z < len i) (hn : len i < 2147483648) (hdg : decode cc pc = .ok (.laload, 1))
    (kk : W p l e R0 s m args below meth c H locs cells slots Q (F0 m (pc + 1) ls (.long (zL (Y i z)) :: rest))) : W p l e R0 s m args below meth c H locs cells slots Q (F0 m pc ls (.int (zI z) :: .ref (bs + i) :: rest)) := by
  refine va_lald (n := len i) (f := fun j => zL (Y i j)) (cA := cy 2) C.1 C.2.1 C.2.2.2.2.2 (zH_one hH hi (by rw [hk]; rfl)) 0 2 rfl rfl (zI_in h0 h1 hn) hdg ?_
  rw [zI_idx h0 h1 hn]
  exact kk
theorem zU_fun {f : Int → Int} {n : Nat} {z v : Int} (h0 : 0 ≤ z) (h1 : z < n) (hn : n < 2147483648) {β : Type} (g : Int → β) : (fun j : Nat => g (if (j : Int) = z then v else f j)) = fun j : Nat => if j = (zI z).toNatClampNeg then g v else g (f j) := by
  funext j
  have e := zI_idx h0 h1 hn
  by_cases h : (j : Int) = z
  · rw [if_pos h, if_pos (by omega)]
  · rw [if_neg h, if_neg (by omega)]
theorem zd_iast (C : zC p m c cc nL s args own D cy) (hH : zH D cy bs N kd len X Y R H) (hS : va_S (zA bs) H0 H locs) {i : Nat} (hi : i < N) (hk : kd i = 13) {z v : Int} (h0 : 0 ≤ z) (h1 : z < len i) (hn : len i < 2147483648) (hvr : rI v) (hdg : decode cc pc = .ok (.iastore, 1))
    (kk : ∀ (H1 : Heap) (locs1 : List Loc), zH D cy bs N kd len (zU X i z v) Y R H1 → va_S (zA bs) H0 H1 locs1 → W p l e R0 s m args below meth c H1 locs1 cells slots Q (F0 m (pc + 1) ls rest)) : W p l e R0 s m args below meth c H locs cells slots Q (F0 m pc ls (.int (zI v) :: .int (zI z) :: .ref (bs + i) :: rest)) := by
  have hin := zI_in h0 h1 hn
  have hc : H[bs + i]? = some (vp_cell (cy 1) (len i, .inl (fun j => zI (X i j)))) := zH_one hH hi (e := .inl (cy 1, len i, .inl (fun j => zI (X i j)))) (by rw [hk]; rfl) 0 _ rfl
  refine W.iast C.1 C.2.1 hc ((C.2.2.2.2.2.2 1 _ rfl).1 (len i) (fun j => .int (zI (X i j)))) (fun q => by cases q) (by show ¬ (_ ∨ (arrV _ _ _).slots.size ≤ _); rw [arrV_size]; exact hin) rfl rfl hdg fun H1 e1 z1 oq => ?_
  refine kk H1 _ (zH_put hH (fun j hj => ⟨zU_o hj, rfl, rfl⟩) z1 oq (zU_rI hH.2.2.1 hvr) hH.2.2.2 ?_) (hS.put z1 oq (Nat.le_add_right _ _))
  rw [hk]
  show H1[bs + i]? = some (vp_cell (cy 1) (len i, .inl (fun j => zI (zU X i z v i j))))
  rw [e1, vp_cell_i, vp_cell_i, arrV_store]
  congr 2
  funext q
  have e := zI_idx h0 h1 hn
  unfold updV zU
  by_cases hq : q = (zI z).toNatClampNeg
  · rw [if_pos hq, if_pos ⟨rfl, by omega⟩]
  · rw [if_neg hq, if_neg (fun x => hq (by omega))]
end ZR
