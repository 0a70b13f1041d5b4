/-! MORE CELLS -/
/-- a cell with one value everywhere -/
def zZ {α : Type} (X : Nat → Int → α) (i : Nat) (v : α) : Nat → Int → α := fun a b => if a = i then v else X a b
theorem zZ_s {α : Type} {X : Nat → Int → α} {i : Nat} {v : α} : zZ X i v i = fun _ => v := funext fun _ => if_pos rfl
theorem zZ_at {α : Type} {X : Nat → Int → α} {i : Nat} {v : α} {j : Int} : zZ X i v i j = v := if_pos rfl
theorem zZ_o {α : Type} {X : Nat → Int → α} {i a : Nat} {v : α} (h : a ≠ i) : zZ X i v a = X a := funext fun _ => if_neg h
theorem zZ_rI {X : Nat → Int → Int} {i : Nat} {v : Int} (h : ∀ i j, rI (X i j)) (hv : rI v) : ∀ a b, rI (zZ X i v a b) := by
  intro a b
  unfold zZ
  split
  · exact hv
  · exact h a b
theorem zZ_rL {X : Nat → Int → Int} {i : Nat} {v : Int} (h : ∀ i j, rL (X i j)) (hv : rL v) : ∀ a b, rL (zZ X i v a b) := by
  intro a b
  unfold zZ
  split
  · exact hv
  · exact h a b
abbrev zRmG (fr lo K SL : Nat) : Room := { frames := fr, cells := K, slots := SL, locals := lo }
/-- arrays of references may be made -/
def zAO (U : State) : Prop := va_AO RX0 U ∧ va_AO RX5 U ∧ va_AO RX6 U ∧ va_AO RX8 U ∧ va_AO RX9 U

section ZN
variable {p : Program} {l : Launch} {e : Env} {R0 : Room} {s : State} {m : MethodId} {args : Array Value} {below : List Frame} {meth : Method} {c : Code} {H : Heap} {locs : List Loc} {cells slots : Nat} {Q : State → Prop}
variable {cc : ByteArray} {pc nL : Nat} {ls : Array Slot} {rest : List Value} {D : va_G} {cy : Nat → ClassId} {own : String} {bs N : Nat} {sa : Nat → Nat} {kd len : Nat → Nat} {X Y : Nat → Int → Int} {R : Nat → Int → Option Nat} {H0 : Heap}
theorem W_raise {c1 s1 : Nat} {g : JFrame} (h1 : c1 ≤ cells) (h2 : s1 ≤ slots) (k : W p l e R0 s m args below meth c H locs cells slots Q g) : W p l e R0 s m args below meth c H locs c1 s1 Q g :=
  fun T hT X => k T hT { X with same := ⟨X.same.1, X.same.2.1, Nat.le_trans X.same.2.2.1 (Nat.add_le_add_left h1 _), X.same.2.2.2.1, Nat.le_trans X.same.2.2.2.2.1 h2, X.same.2.2.2.2.2⟩ }
theorem zstartG {l : Launch} {y : MethodName} {bytes : ByteArray} {maxL fr lo K SL : Nat} {ret : Option FieldType} {D : va_G} {cy : Nat → ClassId} {bs N : Nat} {sa : Nat → Nat} {kd len : Nat → Nat} {X Y : Nat → Int → Int} {R : Nat → Int → Option Nat} {av : List Value} {Qc : Array Value → State → Outcome → State → Prop} (hy : plainName y.cls = true) (hlen : (lg_sl av).length ≤ maxL)
    (body : ∀ (p : Program) (e : Env) (s : State) (m : MethodId) (args : Array Value) (below : List Frame) (meth : Method) (c : Code) (ls : Array Slot), zC p m c bytes maxL s args y.cls D cy → zE D cy bs sa s → zH D cy bs N kd len X Y R s.heap → meth.sig.returnType = ret → meth.locks = false → meth.name = y.name → lv_has ls maxL (lv_args 0 av) → args = av.toArray →
      W p l e (zRmG fr lo K SL) s m args below meth c s.heap [] 0 0 (MQ below Qc args s K SL (zA bs)) (F0 m 0 ls [])) : Met l y (.code y bytes maxL ret :: zTB) (zRmG fr lo K SL) (zPc D cy bs sa N kd len X Y R av) Qc K SL (zA bs) := by
  refine Met.ofW (cc := bytes) (maxL := maxL) (ret := ret) hy rfl ?_
  intro p e s m args below meth c s₁ B hml hv
  obtain ⟨rfl, hH, hE⟩ := hv
  have hts := atoms_spec B.pre
  rw [lg_entry_eq]
  exact body p e s m _ below meth c _ ⟨B.exec, B.bytes, hml, findClass_of_methodNamed B.named, fun w hw => hts w (List.mem_cons_of_mem _ hw), hE.1⟩ hE hH B.returns B.notSynchronized (name_of_methodNamed B.named B.method).1 (lv_entry av hlen) rfl
theorem zH_new {X' Y' : Nat → Int → Int} {R' : Nat → Int → Option Nat} {H1 : Heap} (h : zH D cy bs N kd len X Y R H) (z : H1.size = H.size + 1) (o : ∀ q : Nat, q < H.size → H1[q]? = H[q]?) (ha : ∀ a, a < N → X' a = X a ∧ Y' a = Y a ∧ R' a = R a) (hX : ∀ i j, rI (X' i j)) (hY : ∀ i j, rL (Y' i j)) (hn : va_at D vwCl (bs + N, zc cy bs (kd N) (len N) (X' N) (Y' N) (R' N)) H1) : zH D cy bs (N + 1) kd len X' Y' R' H1 := by
  refine ⟨by rw [z, h.1]; omega, fun j hj => ?_, hX, hY⟩
  by_cases e : j = N
  · rw [e]
    exact hn
  · obtain ⟨a, b, c⟩ := ha j (by omega)
    rw [a, b, c]
    exact (h.2.1 j (by omega)).kept (o _ (by have := h.1; show bs + j < H.size; omega))
theorem zS_new {H1 : Heap} (hS : va_S (zA bs) H0 H locs) (z : H1.size = H.size + 1) (o : ∀ q : Nat, q < H.size → H1[q]? = H[q]?) : va_S (zA bs) H0 H1 locs :=
  ⟨Nat.le_trans hS.1 (by omega), fun x h1 h2 => (o x (Nat.lt_of_lt_of_le h1 hS.1)).trans (hS.2.1 x h1 h2), hS.2.2⟩
theorem zn_neg {n : Nat} (hn : n ≤ 100000) : ¬ zI (n : Int) < 0 := by
  rw [zI_0, zI_lt ⟨by omega, by omega⟩ (by decide)]
  omega
theorem zn_nat {n : Nat} (hn : n ≤ 100000) : (zI (n : Int)).toNatClampNeg = n := by
  rw [zI_clamp ⟨by omega, by omega⟩]
  omega
theorem zd_newJ (C : zC p m c cc nL s args own D cy) (hH : zH D cy bs N kd len X Y R H) (hS : va_S (zA bs) H0 H locs) (hq : Cond.arrayClass .long ∈ zTB) {n : Nat} {z : Int} (hz : z = (n : Int)) (hn : n ≤ 100000) (hk : kd N = 14) (hl : len N = n) (hc : cells + 1 ≤ R0.cells) (hs : slots + n ≤ R0.slots) (hdg : decode cc pc = .ok (.newarray .long, 2))
    (kk : ∀ H1 : Heap, zH D cy bs (N + 1) kd len X (zZ Y N 0) R H1 → va_S (zA bs) H0 H1 locs → W p l e R0 s m args below meth c H1 locs (cells + 1) (slots + n) Q (F0 m (pc + 2) ls (.ref (bs + N) :: rest))) : W p l e R0 s m args below meth c H locs cells slots Q (F0 m pc ls (.int (zI z) :: rest)) := by
  subst hz
  refine va_newaK (atype := .long) (N := n) C.1 C.2.1 (C.2.2.2.2.1 _ hq) rfl hdg rfl (zn_neg hn) (zn_nat hn) (show n * 8 ≤ _ by omega) hc hs hH.1 fun H1 cA e1 z1 o1 _ hNm => ?_
  have hcy : cA = cy 2 := Option.some.inj (hNm.symm.trans (C.2.2.2.2.2.2 2 _ rfl).2)
  subst hcy
  have z2 : H1.size = H.size + 1 := by rw [z1, hH.1]
  have o2 : ∀ q : Nat, q < H.size → H1[q]? = H[q]? := fun q hq => o1 q (by rw [← hH.1]; exact hq)
  refine kk H1 (zH_new hH z2 o2 (fun a h => ⟨rfl, zZ_o (by omega), rfl⟩) hH.2.2.1 (zZ_rL hH.2.2.2 (by decide)) ?_) (zS_new hS z2 o2)
  rw [hk]
  show H1[bs + N]? = some (vp_cell (cy 2) (len N, .inr (.inl (fun j => zL (zZ Y N 0 N j)))))
  rw [vp_cell_l, hl, e1]
  congr 2
  funext j
  rw [zZ_at]
  rfl

theorem zd_newI (C : zC p m c cc nL s args own D cy) (hH : zH D cy bs N kd len X Y R H) (hS : va_S (zA bs) H0 H locs) (hq : Cond.arrayClass .int ∈ zTB) {n : Nat} {z : Int} (hz : z = (n : Int)) (hn : n ≤ 100000) (hk : kd N = 13) (hl : len N = n) (hc : cells + 1 ≤ R0.cells) (hs : slots + n ≤ R0.slots) (hdg : decode cc pc = .ok (.newarray .int, 2))
    (kk : ∀ H1 : Heap, zH D cy bs (N + 1) kd len (zZ X N 0) Y R H1 → va_S (zA bs) H0 H1 locs → W p l e R0 s m args below meth c H1 locs (cells + 1) (slots + n) Q (F0 m (pc + 2) ls (.ref (bs + N) :: rest))) : W p l e R0 s m args below meth c H locs cells slots Q (F0 m pc ls (.int (zI z) :: rest)) := by
  subst hz
  refine va_newaK (atype := .int) (N := n) C.1 C.2.1 (C.2.2.2.2.1 _ hq) rfl hdg rfl (zn_neg hn) (zn_nat hn) (show n * 4 ≤ _ by omega) hc hs hH.1 fun H1 cA e1 z1 o1 _ hNm => ?_
  have hcy : cA = cy 1 := Option.some.inj (hNm.symm.trans (C.2.2.2.2.2.2 1 _ rfl).2)
  subst hcy
  have z2 : H1.size = H.size + 1 := by rw [z1, hH.1]
  have o2 : ∀ q : Nat, q < H.size → H1[q]? = H[q]? := fun q hq => o1 q (by rw [← hH.1]; exact hq)
  refine kk H1 (zH_new hH z2 o2 (fun a h => ⟨zZ_o (by omega), rfl, rfl⟩) (zZ_rI hH.2.2.1 (by decide)) hH.2.2.2 ?_) (zS_new hS z2 o2)
  rw [hk]
  show H1[bs + N]? = some (vp_cell (cy 1) (len N, .inl (fun j => zI (zZ X N 0 N j))))
  rw [vp_cell_i, hl, e1]
  congr 2
  funext j
  rw [zZ_at]
  rfl
theorem zd_newZ (C : zC p m c cc nL s args own D cy) (hH : zH D cy bs N kd len X Y R H) (hS : va_S (zA bs) H0 H locs) (hq : Cond.arrayClass .boolean ∈ zTB) {n : Nat} {z : Int} (hz : z = (n : Int)) (hn : n ≤ 100000) (hk : kd N = 15) (hl : len N = n) (hc : cells + 1 ≤ R0.cells) (hs : slots + n ≤ R0.slots) (hdg : decode cc pc = .ok (.newarray .boolean, 2))
    (kk : ∀ H1 : Heap, zH D cy bs (N + 1) kd len (zZ X N 0) Y R H1 → va_S (zA bs) H0 H1 locs → W p l e R0 s m args below meth c H1 locs (cells + 1) (slots + n) Q (F0 m (pc + 2) ls (.ref (bs + N) :: rest))) : W p l e R0 s m args below meth c H locs cells slots Q (F0 m pc ls (.int (zI z) :: rest)) := by
  subst hz
  refine va_newaK (atype := .boolean) (N := n) C.1 C.2.1 (C.2.2.2.2.1 _ hq) rfl hdg rfl (zn_neg hn) (zn_nat hn) (show n * 1 ≤ _ by omega) hc hs hH.1 fun H1 cA e1 z1 o1 _ hNm => ?_
  have hcy : cA = cy 3 := Option.some.inj (hNm.symm.trans (C.2.2.2.2.2.2 3 _ rfl).2)
  subst hcy
  have z2 : H1.size = H.size + 1 := by rw [z1, hH.1]
  have o2 : ∀ q : Nat, q < H.size → H1[q]? = H[q]? := fun q hq => o1 q (by rw [← hH.1]; exact hq)
  refine kk H1 (zH_new hH z2 o2 (fun a h => ⟨zZ_o (by omega), rfl, rfl⟩) (zZ_rI hH.2.2.1 (by decide)) hH.2.2.2 ?_) (zS_new hS z2 o2)
  rw [hk]
  show H1[bs + N]? = some (vp_cell (cy 3) (len N, .inl (fun j => zI (zZ X N 0 N j))))
  rw [vp_cell_i, hl, e1]
  congr 2
  funext j
  rw [zZ_at]
  rfl
theorem zd_newB (C : zC p m c cc nL s args own D cy) (hH : zH D cy bs N kd len X Y R H) (hS : va_S (zA bs) H0 H locs) (hq : Cond.arrayClass .byte ∈ zTB) {n : Nat} {z : Int} (hz : z = (n : Int)) (hn : n ≤ 100000) (hk : kd N = 12) (hl : len N = n) (hc : cells + 1 ≤ R0.cells) (hs : slots + n ≤ R0.slots) (hdg : decode cc pc = .ok (.newarray .byte, 2))
    (kk : ∀ H1 : Heap, zH D cy bs (N + 1) kd len (zZ X N 0) Y R H1 → va_S (zA bs) H0 H1 locs → W p l e R0 s m args below meth c H1 locs (cells + 1) (slots + n) Q (F0 m (pc + 2) ls (.ref (bs + N) :: rest))) : W p l e R0 s m args below meth c H locs cells slots Q (F0 m pc ls (.int (zI z) :: rest)) := by
  subst hz
  refine va_newaK (atype := .byte) (N := n) C.1 C.2.1 (C.2.2.2.2.1 _ hq) rfl hdg rfl (zn_neg hn) (zn_nat hn) (show n * 1 ≤ _ by omega) hc hs hH.1 fun H1 cA e1 z1 o1 _ hNm => ?_
  have hcy : cA = cy 0 := Option.some.inj (hNm.symm.trans (C.2.2.2.2.2.2 0 _ rfl).2)
  subst hcy
  have z2 : H1.size = H.size + 1 := by rw [z1, hH.1]
  have o2 : ∀ q : Nat, q < H.size → H1[q]? = H[q]? := fun q hq => o1 q (by rw [← hH.1]; exact hq)
  refine kk H1 (zH_new hH z2 o2 (fun a h => ⟨zZ_o (by omega), rfl, rfl⟩) (zZ_rI hH.2.2.1 (by decide)) hH.2.2.2 ?_) (zS_new hS z2 o2)
  rw [hk]
  show H1[bs + N]? = some (vp_cell (cy 0) (len N, .inl (fun j => zI (zZ X N 0 N j))))
  rw [vp_cell_i, hl, e1]
  congr 2
  funext j
  rw [zZ_at]
  rfl
end ZN
section ZG
variable {p : Program} {l : Launch} {e : Env} {R0 : Room} {s : State} {m : MethodId} {args : Array Value} {below : List Frame} {meth : Method} {c : Code} {H : Heap} {locs : List Loc} {cells slots : Nat} {Q : State → Prop}
variable {cc : ByteArray} {pc nL : Nat} {ls : Array Slot} {rest : List Value} {D : va_G} {cy : Nat → ClassId} {own : String} {bs N : Nat} {sa : Nat → Nat} {kd len : Nat → Nat} {X Y : Nat → Int → Int} {R : Nat → Int → Option Nat} {H0 : Heap}
variable {y : MethodName} {bytes : ByteArray} {maxL idx n fr lo K SL N2 : Nat} {ret : Option FieldType} {CC : String} {As : List Value}
theorem zd_iretG {post : Int → zSt → Prop} (C : zC p m c cc nL s args own D cy) (hr : meth.sig.returnType = some .int) (hlk : meth.locks = false) (hH : zH D cy bs N kd len X Y R H) (hS : va_S (zA bs) s.heap H locs) {r : Int} (hrg : rI r) (hq : post r (X, Y, R)) (hdg : decode cc pc = .ok (.ireturn, 1)) : W p l e R0 s m args below meth c H locs cells slots (MQ below (zQi D cy bs N kd len post) args s cells slots (zA bs)) (F0 m pc ls [.int (zI r)]) :=
  W.iret C.1 C.2.1 hr (fun t ht _ => ⟨⟨zI r, (r, X, Y, R), rfl, ⟨rfl, hrg, hq⟩, by subst ht; exact hH⟩, hS.F ht⟩) hS.2.2 hdg hlk
theorem zd_zretG {post : Int → zSt → Prop} (C : zC p m c cc nL s args own D cy) (hr : meth.sig.returnType = some .boolean) (hlk : meth.locks = false) (hH : zH D cy bs N kd len X Y R H) (hS : va_S (zA bs) s.heap H locs) {r : Int} (hrg : r = 0 ∨ r = 1) (hq : post r (X, Y, R)) (hdg : decode cc pc = .ok (.ireturn, 1)) : W p l e R0 s m args below meth c H locs cells slots (MQ below (zQi D cy bs N kd len post) args s cells slots (zA bs)) (F0 m pc ls [.int (zI r)]) :=
  W.zret C.1 C.2.1 hr (zN_bool hrg) (fun t ht _ => ⟨⟨zI r, (r, X, Y, R), rfl, ⟨rfl, show rI r by rcases hrg with rfl | rfl <;> decide, hq⟩, by subst ht; exact hH⟩, hS.F ht⟩) hS.2.2 hdg hlk
theorem zd_lretG {post : Int → zSt → Prop} (C : zC p m c cc nL s args own D cy) (hr : meth.sig.returnType = some .long) (hlk : meth.locks = false) (hH : zH D cy bs N kd len X Y R H) (hS : va_S (zA bs) s.heap H locs) {r : Int} (hrg : rL r) (hq : post r (X, Y, R)) (hdg : decode cc pc = .ok (.lreturn, 1)) : W p l e R0 s m args below meth c H locs cells slots (MQ below (zQl D cy bs N kd len post) args s cells slots (zA bs)) (F0 m pc ls [.long (zL r)]) :=
  W.lret C.1 C.2.1 hr (fun t ht _ => ⟨⟨zL r, (r, X, Y, R), rfl, ⟨rfl, hrg, hq⟩, by subst ht; exact hH⟩, hS.F ht⟩) hS.2.2 hdg hlk
theorem zd_vretG {post : zSt → Prop} (C : zC p m c cc nL s args own D cy) (hr : meth.sig.returnType = none) (hlk : meth.locks = false) (hH : zH D cy bs N kd len X Y R H) (hS : va_S (zA bs) s.heap H locs) (hq : post (X, Y, R)) (hdg : decode cc pc = .ok (.return_, 1)) : W p l e R0 s m args below meth c H locs cells slots (MQ below (zQv D cy bs N kd len post) args s cells slots (zA bs)) (F0 m pc ls []) :=
  W.vret C.1 C.2.1 hr (fun t ht _ => ⟨⟨(X, Y, R), rfl, hq, by subst ht; exact hH⟩, hS.F ht⟩) hS.2.2 hdg hlk
theorem zgoiG {post : Int → zSt → Prop} {a : Array Value} {st0 : List Value} (hr : va_Run p l e R0 s m args below meth c H locs cells slots K SL (F0 m pc ls st0) rest (zQi D cy bs N2 kd len post a) (zA bs)) (hS : va_S (zA bs) s.heap H locs)
    (kk : ∀ (r : Int) (X' Y' : Nat → Int → Int) (R' : Nat → Int → Option Nat) (H1 : Heap) (locs1 : List Loc), rI r → post r (X', Y', R') → zH D cy bs N2 kd len X' Y' R' H1 → va_S (zA bs) s.heap H1 locs1 → W p l e R0 s m args below meth c H1 locs1 (cells + K) (slots + SL) Q (F0 m (pc + 3) ls (.int (zI r) :: rest))) : W p l e R0 s m args below meth c H locs cells slots Q (F0 m pc ls st0) := by
  refine va_calli hr hS (fun q _ h => h) (fun q h => h) (fun r u t H1 locs1 ht _ hw hB _ _ hS1 => ?_)
  obtain ⟨r0, X', Y', R'⟩ := u
  obtain ⟨hw1, hw3, hw2⟩ := hw
  rw [hw1]
  exact kk r0 X' Y' R' H1 locs1 hw3 hw2 (by rw [← ht]; exact hB) hS1
theorem zgolG {post : Int → zSt → Prop} {a : Array Value} {st0 : List Value} (hr : va_Run p l e R0 s m args below meth c H locs cells slots K SL (F0 m pc ls st0) rest (zQl D cy bs N2 kd len post a) (zA bs)) (hS : va_S (zA bs) s.heap H locs)
    (kk : ∀ (r : Int) (X' Y' : Nat → Int → Int) (R' : Nat → Int → Option Nat) (H1 : Heap) (locs1 : List Loc), rL r → post r (X', Y', R') → zH D cy bs N2 kd len X' Y' R' H1 → va_S (zA bs) s.heap H1 locs1 → W p l e R0 s m args below meth c H1 locs1 (cells + K) (slots + SL) Q (F0 m (pc + 3) ls (.long (zL r) :: rest))) : W p l e R0 s m args below meth c H locs cells slots Q (F0 m pc ls st0) := by
  refine va_calll hr hS (fun q _ h => h) (fun q h => h) (fun r u t H1 locs1 ht _ hw hB _ _ hS1 => ?_)
  obtain ⟨r0, X', Y', R'⟩ := u
  obtain ⟨hw1, hw3, hw2⟩ := hw
  rw [hw1]
  exact kk r0 X' Y' R' H1 locs1 hw3 hw2 (by rw [← ht]; exact hB) hS1
theorem zgovG {post : zSt → Prop} {a : Array Value} {st0 : List Value} (hr : va_Run p l e R0 s m args below meth c H locs cells slots K SL (F0 m pc ls st0) rest (zQv D cy bs N2 kd len post a) (zA bs)) (hS : va_S (zA bs) s.heap H locs)
    (kk : ∀ (X' Y' : Nat → Int → Int) (R' : Nat → Int → Option Nat) (H1 : Heap) (locs1 : List Loc), post (X', Y', R') → zH D cy bs N2 kd len X' Y' R' H1 → va_S (zA bs) s.heap H1 locs1 → W p l e R0 s m args below meth c H1 locs1 (cells + K) (slots + SL) Q (F0 m (pc + 3) ls rest)) : W p l e R0 s m args below meth c H locs cells slots Q (F0 m pc ls st0) := by
  refine va_callv hr hS (fun q _ h => h) (fun q h => h) (fun u t H1 locs1 ht _ hw hB _ _ hS1 => ?_)
  obtain ⟨X', Y', R'⟩ := u
  exact kk X' Y' R' H1 locs1 hw (by rw [← ht]; exact hB) hS1
theorem zcwVG (C : zC p m c cc nL s args own D cy) (hw : zLv own idx CC y bytes maxL ret n) (hR : fr + 1 ≤ R0.frames ∧ 8 + (maxL + 11) + lo ≤ R0.locals) : CallW R0 s args own CC idx y bytes maxL ret (.code y bytes maxL ret :: zTB) (zRmG fr lo K SL) K SL n := by
  obtain ⟨⟨w1, w2, w3, w4, w5⟩, h1, h2, h3⟩ := hw
  exact cwV n C.2.2.2.2.1 (zGT (fun w h => by
    rcases List.mem_append.mp h with h | h
    · simp only [List.mem_cons, List.not_mem_nil, or_false] at h
      rcases h with rfl | rfl | rfl | rfl <;> assumption
    · exact zWs w5 w h)) rfl rfl rfl ⟨h1, h2.1, h2.2, h3⟩ hR
theorem zcwSG (C : zC p m c cc nL s args own D cy) (hw : zLs own idx y bytes maxL ret n) (hR : fr + 1 ≤ R0.frames ∧ 8 + (maxL + 11) + lo ≤ R0.locals) : CallB R0 s args own idx y bytes maxL ret (.code y bytes maxL ret :: zTB) (zRmG fr lo K SL) K SL n ∧ (Cond.static y).before args s = true := by
  obtain ⟨⟨w1, w2, w3, w4⟩, h2, h3⟩ := hw
  have ht := C.2.2.2.2.1
  exact ⟨callB_of n ht (zGT (zWs w4)) rfl rfl rfl (ht _ w3) (ht _ w1) ⟨h2.1, h2.2, h3⟩ hR, ht _ w2⟩
theorem zrunVG {Qc : Array Value → State → Outcome → State → Prop} {i ci : Nat} {T : u_T} {nf : Nat} {fs : List Value} (C : zC p m c cc nL s args own D cy) (hE : zE D cy bs sa s) (hH : zH D cy bs N kd len X Y R H) (hS : va_S (zA bs) s.heap H locs) (hl : ls.size = nL) (hM : Met l y (.code y bytes maxL ret :: zTB) (zRmG fr lo K SL) (zPc D cy bs sa N kd len X Y R (.ref (bs + i) :: As)) Qc K SL (zA bs)) (hw : zLv own idx CC y bytes maxL ret n) (hR : fr + 1 ≤ R0.frames ∧ 8 + (maxL + 11) + lo ≤ R0.locals)
    (hi : i < N) (hk : kd i = ci) (he : zc cy bs ci (len i) (X i) (Y i) (R i) = .inr (ci, fs)) (hc : vwCl[ci]? = some (CC, T, nf)) (hn : As.length = n) (hr : (rest.map fun v => v.category).sum ≤ 8) (hdg : decode cc pc = .ok (.invokevirtual idx, 3)) (hcl : cells + K ≤ R0.cells ∧ slots + SL ≤ R0.slots) : va_Run p l e R0 s m args below meth c H locs cells slots K SL (F0 m pc ls (As.reverse ++ .ref (bs + i) :: rest)) rest (Qc (Value.ref (bs + i) :: As).toArray) (zA bs) :=
  va_runV (As := As) (rest := rest) (Ts := zTB) ⟨C.1, C.2.1, C.2.2.1, C.2.2.2.1, C.2.2.2.2.1⟩ hM (zcwVG C hw hR) (zpreV hE hH hS hi hk he hc As) rfl hn hl rfl (lv_room hr) hdg hcl
theorem zrunSG {Qc : Array Value → State → Outcome → State → Prop} (C : zC p m c cc nL s args own D cy) (hE : zE D cy bs sa s) (hH : zH D cy bs N kd len X Y R H) (hS : va_S (zA bs) s.heap H locs) (hl : ls.size = nL) (hM : Met l y (.code y bytes maxL ret :: zTB) (zRmG fr lo K SL) (zPc D cy bs sa N kd len X Y R As) Qc K SL (zA bs)) (hw : zLs own idx y bytes maxL ret n) (hR : fr + 1 ≤ R0.frames ∧ 8 + (maxL + 11) + lo ≤ R0.locals)
    (hn : As.length = n) (hr : (rest.map fun v => v.category).sum ≤ 8) (hdg : decode cc pc = .ok (.invokestatic idx, 3)) (hcl : cells + K ≤ R0.cells ∧ slots + SL ≤ R0.slots) : va_Run p l e R0 s m args below meth c H locs cells slots K SL (F0 m pc ls (As.reverse ++ rest)) rest (Qc As.toArray) (zA bs) :=
  va_runS (As := As) (rest := rest) (Ts := zTB) ⟨C.1, C.2.1, C.2.2.1, C.2.2.2.1, C.2.2.2.2.1⟩ hM (zcwSG C hw hR) (zpre hE hH hS As) rfl hn hl rfl (lv_room hr) hdg hcl
end ZG
