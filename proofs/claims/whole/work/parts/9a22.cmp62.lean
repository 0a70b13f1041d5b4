/-! AN ARRAY OF ROWS OF INTS -/
/-- the outer row, its first i places filled with the cells behind it -/
def mrA (cA : ClassId) (n h i : Nat) : Cell := arrV cA n (fun j => if j < i then .ref (h + 1 + j) else .null)
theorem mrA_0 (cA : ClassId) (n h : Nat) : mrA cA n h 0 = { cls := cA, slots := Array.replicate n .null, vm := .none } := by
  rw [arrV_new]
  unfold mrA
  congr 1
theorem mrA_set (cA : ClassId) (n h i : Nat) : (mrA cA n h i).setSlot i (.ref (h + 1 + i)) = mrA cA n h (i + 1) := by
  unfold mrA
  rw [arrV_store]
  congr 1
  funext j
  unfold updV
  by_cases q : j = i
  · subst q
    rw [if_pos rfl, if_pos (Nat.lt_succ_self _)]
  · rw [if_neg q]
    show (if j < i then Value.ref (h + 1 + j) else Value.null) = _
    by_cases q2 : j < i
    · rw [if_pos q2, if_pos (by omega)]
    · rw [if_neg q2, if_neg (by omega)]
/-- after i inner rows of k values v -/
def mrS (T : State) (cA cI : ClassId) (n k : Nat) (v : Value) : Nat → State
  | 0 => T.pushCell (mrA cA n T.heap.size 0)
  | i + 1 => ((mrS T cA cI n k v i).pushCell (arrV cI k fun _ => v)).setCell T.heap.size (mrA cA n T.heap.size (i + 1))
theorem mrS_ok (T : State) (cA cI : ClassId) (n k : Nat) (v : Value) : ∀ i, (mrS T cA cI n k v i).heap.size = T.heap.size + 1 + i ∧ (mrS T cA cI n k v i).heap[T.heap.size]? = some (mrA cA n T.heap.size i) ∧ (mrS T cA cI n k v i).vm = T.vm ∧ (mrS T cA cI n k v i).slotsUsed = T.slotsUsed + n + i * k ∧
    (∀ a, a < T.heap.size → (mrS T cA cI n k v i).heap[a]? = T.heap[a]?) ∧ ∀ j, j < i → (mrS T cA cI n k v i).heap[T.heap.size + 1 + j]? = some (arrV cI k fun _ => v)
  | 0 => by
    refine ⟨by simp [mrS], by simp [mrS], rfl, by simp [mrS, mrA, arrV_size], fun a h => State.heap_pushCell_of_lt _ _ h, fun j h => absurd h (Nat.not_lt_zero _)⟩
  | i + 1 => by
    obtain ⟨z, a, b, u, o, q⟩ := mrS_ok T cA cI n k v i
    have lt : T.heap.size < (mrS T cA cI n k v i).heap.size := by omega
    have at0 : ((mrS T cA cI n k v i).pushCell (arrV cI k fun _ => v)).heap[T.heap.size]? = some (mrA cA n T.heap.size i) := by
      rw [State.heap_pushCell_of_lt (h := lt)]
      exact a
    refine ⟨?_, State.heap_setCell_self at0, by simp [mrS, b], ?_, fun x h => ?_, fun j h => ?_⟩
    · simp [mrS, State.setCell, z]
      omega
    · simp [mrS, u, arrV_size, Nat.succ_mul]
      omega
    · show (((mrS T cA cI n k v i).pushCell (arrV cI k fun _ => v)).setCell T.heap.size _).heap[x]? = _
      rw [State.heap_setCell_other (Nat.ne_of_gt h), State.heap_pushCell_of_lt (h := Nat.lt_trans h lt)]
      exact o x h
    · show (((mrS T cA cI n k v i).pushCell (arrV cI k fun _ => v)).setCell T.heap.size _).heap[T.heap.size + 1 + j]? = _
      rw [State.heap_setCell_other (show T.heap.size ≠ T.heap.size + 1 + j by omega)]
      by_cases e : j = i
      · subst e
        rw [← z]
        exact State.heap_pushCell_size _ _
      · have lt2 : T.heap.size + 1 + j < (mrS T cA cI n k v i).heap.size := by omega
        rw [State.heap_pushCell_of_lt _ _ lt2]
        exact q j (by omega)
theorem mrS_top (T : State) (f : JFrame) (cA cI : ClassId) (n k : Nat) (v : Value) : ∀ i, mrS (T.setTop f) cA cI n k v i = (mrS T cA cI n k v i).setTop f
  | 0 => rfl
  | i + 1 => by
    show ((mrS (T.setTop f) cA cI n k v i).pushCell _).setCell _ _ = _
    rw [mrS_top T f cA cI n k v i]
    rfl
section ZMR
variable {E : CtlPost} {e : Env} {d : Bool} {acts : List Action} {s : State}
theorem mr_inner {cI ci : ClassId} {kI : Class} {k : Int32} (hI : s.vm.classes[cI]? = some kI) (hkI : kI.kind = .array ci .int) (hk : ¬ k < 0) (l2 : ¬ k.toNatClampNeg > e.platform.arrayLengthLimit) (m2 : ¬ k.toNatClampNeg * 4 > e.platform.maxHeapBytes) (h1 : s.heap.size < e.platform.maxCells) (h2 : s.slotsUsed + k.toNatClampNeg ≤ e.platform.maxSlots)
    {Q : Addr → Pre} (hq : ∀ acts', Q s.heap.size d acts' (s.pushCell (arrV cI k.toNatClampNeg fun _ => .int 0))) : wp (multianewarray.make cI [k]) Q E e d acts s := by
  rw [multianewarray.make]
  simp only [wp_bind', W.ite, hk, if_false, wp_pure', W.theClass, hI, hkI, Option.some.injEq, exists_eq_left']
  refine W.newArray_of hI hkI l2 m2 h1 h2 rfl (fun a' => ?_)
  have e9 : ({ cls := cI, slots := Array.replicate k.toNatClampNeg (defaultValue .int) } : Cell) = arrV cI k.toNatClampNeg fun _ => .int 0 := arrV_new _ _ _
  rw [e9]
  exact hq a'
theorem mr_make {cA cI ci : ClassId} {kA kI : Class} {n k : Int32} (hA : s.vm.classes[cA]? = some kA) (hkA : kA.kind = .array cI (.array .int)) (hI : s.vm.classes[cI]? = some kI) (hkI : kI.kind = .array ci .int) (hn : ¬ n < 0) (hk : ¬ k < 0)
    (l1 : ¬ n.toNatClampNeg > e.platform.arrayLengthLimit) (m1 : ¬ n.toNatClampNeg * 4 > e.platform.maxHeapBytes) (l2 : ¬ k.toNatClampNeg > e.platform.arrayLengthLimit) (m2 : ¬ k.toNatClampNeg * 4 > e.platform.maxHeapBytes)
    (h1 : s.heap.size + 1 + n.toNatClampNeg ≤ e.platform.maxCells) (h2 : s.slotsUsed + n.toNatClampNeg + n.toNatClampNeg * k.toNatClampNeg ≤ e.platform.maxSlots)
    {Q : Addr → Pre} (hq : ∀ d' a', Q s.heap.size d' a' (mrS s cA cI n.toNatClampNeg k.toNatClampNeg (.int 0) n.toNatClampNeg)) : wp (multianewarray.make cA [n, k]) Q E e d acts s := by
  have hf : ([k].find? (· < 0)) = none := by simp [hk]
  rw [multianewarray.make]
  simp only [wp_bind', W.ite, hn, if_false, wp_pure', W.theClass, hA, hkA, Option.some.injEq, exists_eq_left']
  refine W.newArray_of hA hkA l1 m1 (by omega) (by have := Nat.zero_le (n.toNatClampNeg * k.toNatClampNeg); omega) rfl (fun a' => ?_)
  have e9 : ({ cls := cA, slots := Array.replicate n.toNatClampNeg .null } : Cell) = mrA cA n.toNatClampNeg s.heap.size 0 := (mrA_0 _ _ _).symm
  rw [e9]
  simp only [hf]
  rw [ite_self, wp_bind', Std.Legacy.Range.forIn_eq_forIn_range']
  rw [show ([:n.toNatClampNeg] : Std.Legacy.Range).size = n.toNatClampNeg by simp [Std.Legacy.Range.size]]
  generalize hN : n.toNatClampNeg = N at *
  generalize hM : k.toNatClampNeg = M at *
  refine wp_forIn_inv (fun r s' => ∃ i, r = List.range' i (N - i) ∧ i ≤ N ∧ s' = mrS s cA cI N M (.int 0) i) _ _ ⟨0, rfl, Nat.zero_le _, rfl⟩ ?_ ?_
  · rintro x r s' d' a'' Q' ⟨i, hr, hi, rfl⟩ next
    have lt : i < N := by
      rcases Nat.lt_or_ge i N with h | h
      · exact h
      · rw [Nat.sub_eq_zero_of_le h] at hr
        cases hr
    rw [show N - i = (N - (i + 1)) + 1 by omega, List.range'_succ] at hr
    obtain ⟨rfl, hr⟩ := List.cons.inj hr
    obtain ⟨z, a, b, u, o, q⟩ := mrS_ok s cA cI N M (.int 0) x
    have mul : x * M + M ≤ N * M := by
      have := Nat.mul_le_mul_right M (show x + 1 ≤ N from lt)
      rw [Nat.succ_mul] at this
      exact this
    simp only [wp_bind']
    refine mr_inner (by rw [b]; exact hI) hkI hk (by rw [hM]; exact l2) (by rw [hM]; exact m2) (by rw [z]; omega) (by rw [u, hM]; omega) (fun a3 => ?_)
    simp only [wp_bind', W.writeLoc, wp_pure']
    have lt2 : s.heap.size < (mrS s cA cI N M (.int 0) x).heap.size := by omega
    refine ⟨mrA cA N s.heap.size x, by rw [State.heap_pushCell_of_lt _ _ lt2]; exact a, fun h => (by cases h), by rw [show (mrA cA N s.heap.size x).slots.size = N from arrV_size _ _ _]; exact lt, ?_, next _ _ _ ⟨x + 1, hr, lt, ?_⟩⟩
    · show State.fitsSlot _ cA .none x _ = true
      simp [State.fitsSlot, State.slotType?, b, hA, hkA]
      rfl
    · rw [z, mrA_set, hM]
      rfl
  · rintro s' d' a'' ⟨i, hr, hi, rfl⟩
    have e1 : i = N := by
      rcases Nat.lt_or_ge i N with h | h
      · rw [show N - i = (N - (i + 1)) + 1 by omega, List.range'_succ] at hr
        cases hr
      · omega
    subst e1
    simp only [wp_pure']
    exact hq _ _
end ZMR
section ZMS
variable {p : Program} {l : Launch} {e : Env} {R : Room} {s : State} {m : MethodId} {args : Array Value} {below : List Frame} {meth : Method} {c : Code} {T : State} {locs : List Loc} {cells slots : Nat}
theorem mr_stand (X : Stand p l e R s m args below meth c T locs cells slots) (cA cI : ClassId) (n k : Nat) (v : Value) : ∀ i, Stand p l e R s m args below meth c (mrS T cA cI n k v i) locs (cells + 1 + i) (slots + n + i * k)
  | 0 => by
    have h := X.pushed (mrA cA n T.heap.size 0)
    rw [show (mrA cA n T.heap.size 0).slots.size = n from arrV_size _ _ _] at h
    simpa [mrS] using h
  | i + 1 => by
    have Y := mr_stand X cA cI n k v i
    obtain ⟨z, a, b, u, o, q⟩ := mrS_ok T cA cI n k v i
    have lt2 : T.heap.size < (mrS T cA cI n k v i).heap.size := by omega
    have h := (Y.pushed (arrV cI k fun _ => v)).stored (a := T.heap.size) (cell := mrA cA n T.heap.size i) (by rw [State.heap_pushCell_of_lt _ _ lt2]; exact a) i (.ref (T.heap.size + 1 + i))
    rw [mrA_set, arrV_size] at h
    have h2 := Stand.forget (extra := [⟨T.heap.size, i⟩]) h (fun q hq => by
      rcases List.mem_singleton.mp hq with rfl
      exact X.same.2.1)
    rw [show slots + n + (i + 1) * k = slots + n + i * k + k by rw [Nat.succ_mul]; omega]
    exact h2
end ZMS

section ZMW
variable {p : Program} {l : Launch} {e : Env} {R0 : Room} {s : State} {m : MethodId} {args : Array Value} {below : List Frame} {meth : Method} {c : Code} {H : Heap} {locs : List Loc} {cells slots : Nat} {Q : State → Prop}
variable {cc : ByteArray} {pc nL : Nat} {ls : Array Slot} {rest : List Value} {D : va_G} {cy : Nat → ClassId} {own : String} {bs N : Nat} {sa : Nat → Nat} {kd len : Nat → Nat} {X Y : Nat → Int → Int} {R : Nat → Int → Option Nat} {H0 : Heap}
/-- references of a new outer row: the cells behind it -/
def mrR (R : Nat → Int → Option Nat) (N n : Nat) : Nat → Int → Option Nat := fun a b => if a = N then (if 0 ≤ b ∧ b < n then some (N + 1 + b.toNat) else none) else R a b
/-- new inner rows -/
def mrX (X : Nat → Int → Int) (N n : Nat) : Nat → Int → Int := fun a b => if N < a ∧ a ≤ N + n then 0 else X a b
theorem mrR_o {R : Nat → Int → Option Nat} {N n a : Nat} (h : a ≠ N) : mrR R N n a = R a := funext fun _ => if_neg h
theorem mrR_s {R : Nat → Int → Option Nat} {N n : Nat} {b : Int} (h0 : 0 ≤ b) (h1 : b < n) : mrR R N n N b = some (N + 1 + b.toNat) := by
  show (if N = N then (if 0 ≤ b ∧ b < n then some (N + 1 + b.toNat) else none) else R N b) = _
  rw [if_pos rfl, if_pos ⟨h0, h1⟩]
theorem mrX_o {X : Nat → Int → Int} {N n a : Nat} (h : a ≤ N ∨ N + n < a) : mrX X N n a = X a := funext fun _ => if_neg (by omega)
theorem mrX_s {X : Nat → Int → Int} {N n a : Nat} (h : N < a ∧ a ≤ N + n) : mrX X N n a = fun _ => 0 := funext fun _ => if_pos h
theorem zd_mnew {idx n k : Nat} (C : zC p m c cc nL s args own D cy) (hH : zH D cy bs N kd len X Y R H) (hS : va_S (zA bs) H0 H locs) (q1 : Cond.classLink own idx "[[I" ∈ zTB) (q2 : Cond.arrayClass .int ∈ zTB) (hA : zAI s) (hn : n ≤ 100000) (hk : k ≤ 100000)
    (kN : kd N = 21) (lN : len N = n) (kI : ∀ j, j < n → kd (N + 1 + j) = 13 ∧ len (N + 1 + j) = k) (hc : cells + (1 + n) ≤ R0.cells) (hs : slots + (n + n * k) ≤ R0.slots) (hdg : decode cc pc = .ok (.multianewarray idx 2, 4))
    (kk : ∀ H1 : Heap, zH D cy bs (N + 1 + n) kd len (mrX X N n) Y (mrR R N n) H1 → va_S (zA bs) H0 H1 locs → W p l e R0 s m args below meth c H1 locs (cells + 1 + n) (slots + n + n * k) Q (F0 m (pc + 4) ls (.ref (bs + N) :: rest))) : W p l e R0 s m args below meth c H locs cells slots Q (F0 m pc ls (.int (zI k) :: .int (zI n) :: rest)) := by
  have ht := C.2.2.2.2.1
  have own1 := C.2.2.2.1
  have hexec := C.1
  obtain ⟨cI, cA, kA, fI, -, gA, kdA, fA⟩ := arrayOverA_spec (zAI_use (A := args) hA)
  obtain ⟨cI', kIc, ci, fI', gI, kdI⟩ := Cond.arrayClass_spec (ht _ q2)
  have e1 : cI' = cI := Option.some.inj (fI'.symm.trans fI)
  subst e1
  have e2 : cA = cy 9 := Option.some.inj (fA.symm.trans (C.2.2.2.2.2.2 9 (cy 9, .array .int) rfl).2)
  have e3 : cI' = cy 1 := Option.some.inj (fI'.symm.trans (C.2.2.2.2.2.2 1 (cy 1, .int) rfl).2)
  intro T hT X0
  subst hT
  have hpl : e.platform.magicAccessors = ({} : Platform).magicAccessors := by rw [X0.admits.platform]
  obtain ⟨c0, f0, hcl⟩ := Cond.classLink_spec own1 (ht _ q1) e.platform hpl
  have e4 : c0 = cA := Option.some.inj (f0.symm.trans fA)
  subst e4
  obtain ⟨g1, w1, r1⟩ := State.classEntry (e := e) X0.warmed hcl
  generalize T.vm.noted m.cls idx (.cls c0) = vm1 at g1 w1 r1
  have hal : s.vm.Alike vm1 := w1.alike
  obtain ⟨kA1, gA1, eA1⟩ := hal.2.2 _ _ gA
  obtain ⟨kI1, gI1, eI1⟩ := hal.2.2 _ _ gI
  have dA1 : kA1.kind = .array cI' (.array .int) := by rw [eA1]; exact kdA
  have dI1 : kI1.kind = .array ci .int := by rw [eI1]; exact kdI
  have X1 := X0.noted w1
  obtain ⟨o1, o2⟩ := X0.roomAbove hc hs
  have nn := zn_nat hn
  have nk := zn_nat hk
  have XF := mr_stand X1 c0 cI' n k (.int 0) n
  obtain ⟨z, a, b, u, old, inn⟩ := mrS_ok (T.setVm vm1) c0 cI' n k (.int 0) n
  have zT : (T.setVm vm1).heap.size = bs + N := hH.1
  have zN : ∀ i, i < (T.setVm vm1).heap.size → (mrS (T.setVm vm1) c0 cI' n k (.int 0) n).heap[i]? = T.heap[i]? := old
  have hZ : zH D cy bs (N + 1 + n) kd len (mrX X N n) Y (mrR R N n) (mrS (T.setVm vm1) c0 cI' n k (.int 0) n).heap := by
    rw [zT] at z a inn
    refine ⟨by omega, fun i hi => ?_, fun i j => ?_, hH.2.2.2⟩
    · by_cases e5 : i < N
      · rw [mrX_o (Or.inl (by omega)), mrR_o (by omega)]
        exact (hH.2.1 i e5).kept (zN _ (by rw [zT]; show bs + i < bs + N; omega))
      · by_cases e6 : i = N
        · subst e6
          rw [kN]
          show (mrS (T.setVm vm1) c0 cI' n k (.int 0) n).heap[bs + i]? = some (vp_cell (cy 9) (len i, .inr (.inr (.inr (.inr (fun q : Nat => (mrR R i n i q).map (bs + ·)))))))
          rw [a, vp_cell_q, lN, e2]
          unfold mrA
          congr 2
          funext q
          show (if q < n then Value.ref (bs + i + 1 + q) else .null) = va_rf ((if i = i then (if 0 ≤ (q : Int) ∧ (q : Int) < n then some (i + 1 + (q : Int).toNat) else none) else R i q).map (bs + ·))
          rw [if_pos rfl]
          by_cases hq : q < n
          · rw [if_pos hq, if_pos ⟨by omega, by omega⟩]
            have e8 : bs + i + 1 + q = bs + (i + 1 + (q : Int).toNat) := by omega
            exact congrArg Value.ref e8
          · rw [if_neg hq, if_neg (by omega)]
            rfl
        · obtain ⟨kI1, lI1⟩ := kI (i - (N + 1)) (by omega)
          rw [show N + 1 + (i - (N + 1)) = i by omega] at kI1 lI1
          have b7 := inn (i - (N + 1)) (by omega)
          rw [show bs + N + 1 + (i - (N + 1)) = bs + i by omega] at b7
          rw [kI1, mrX_s ⟨by omega, by omega⟩]
          show (mrS (T.setVm vm1) c0 cI' n k (.int 0) n).heap[bs + i]? = some (vp_cell (cy 1) (len i, .inl (fun _ => zI 0)))
          rw [b7, vp_cell_i, lI1, e3]
          rfl
    · unfold mrX
      split
      · decide
      · exact hH.2.2.1 i j
  have hV : va_S (zA bs) H0 (mrS (T.setVm vm1) c0 cI' n k (.int 0) n).heap locs :=
    ⟨Nat.le_trans hS.1 (by show T.heap.size ≤ _; rw [z]; show T.heap.size ≤ T.heap.size + 1 + n; omega), fun x h1 h2 => (zN x (Nat.lt_of_lt_of_le h1 hS.1)).trans (hS.2.1 x h1 h2), hS.2.2⟩
  obtain ⟨t', a1, b1⟩ := kk _ hZ hV _ rfl XF
  refine ⟨t', ?_, b1⟩
  have lim := Launch.admits_arrayLengthLimit X0.admits
  have hb := Launch.admits_maxHeapBytes X0.admits
  have hdg2 : decode c.code pc = .ok (.multianewarray idx 2, 4) := by rw [C.2.1]; exact hdg
  jvm_step X0.here [hexec, hdg2]
  have hg9 : (F0 m pc ls (.int (zI k) :: .int (zI n) :: rest)).method = m := rfl
  simp only [multianewarray.sem, wp_bind', W.resolveClassAt_links (State.method?_setTop (F0 m pc ls (.int (zI k) :: .int (zI n) :: rest)) X0.here.top) g1]
  rw [W.popN, if_neg (by decide)]
  refine ⟨F0 m pc ls (.int (zI k) :: .int (zI n) :: rest), State.topJava?_setTop' (s := T.setVm vm1) _ X0.here.top, [.int (zI n), .int (zI k)], rest, rfl, rfl, ?_⟩
  simp only [List.mapM_cons, List.mapM_nil, wp_bind', wp_pure']
  refine mr_make (kA := kA1) (kI := kI1) (ci := ci) gA1 dA1 gI1 dI1 (zn_neg hn) (zn_neg hk) (by rw [nn, lim]; omega) (by rw [nn, hb]; omega) (by rw [nk, lim]; omega) (by rw [nk, hb]; omega) (by rw [nn]; show T.heap.size + 1 + n ≤ _; omega) (by rw [nn, nk]; show T.slotsUsed + n + n * k ≤ _; omega) (fun d' a' => ?_)
  rw [nn, nk]
  have eS : ((T.setTop (F0 m pc ls (.int (zI k) :: .int (zI n) :: rest))).setVm vm1).setTop (F0 m pc ls rest) = (T.setVm vm1).setTop (F0 m pc ls rest) := by
    show ((T.setVm vm1).setTop _).setTop _ = _
    rw [State.setTop_setTop]
  rw [eS, mrS_top]
  simp only [wp_bind', W.mark, W.pushRef, State.topJava?_setTop' _ XF.here.top, Option.some.injEq, exists_eq_left', State.setTop_setTop, State.heap_setTop]
  intro acts
  simp [jvm, XF.here.top]
  have z9 : T.heap.size = bs + N := hH.1
  rw [z9]
  exact a1
end ZMW
theorem kT_rows {kd len : Nat → Nat} {i : Nat} (hK : kT kd len i tLaws) : ∀ j, j < 36 → kd (i + 1 + 1 + j) = 13 ∧ len (i + 1 + 1 + j) = 41 := by
  intro j hj
  have b := hK (j + 2) (show j + 2 < 40 by omega)
  have q : ∀ j, j < 36 → tLaws.getD (j + 2) (0, 0) = (13, 41) := by decide +kernel
  rw [q j hj] at b
  rw [show i + 1 + 1 + j = i + (j + 2) by omega]
  exact b
def eLw (R : Nat → Int → Option Nat) (i j k : Nat) : Prop := (R i 0 = some j ∧ R i 1 = some k) ∧ (R i 2 = some (i + 1) ∧ R i 3 = some (i + 38) ∧ R i 4 = some (i + 39)) ∧ ∀ z : Int, 0 ≤ z → z < 36 → R (i + 1) z = some (i + 2 + z.toNat)
theorem eLw_mv {R R1 : Nat → Int → Option Nat} {i j k : Nat} (e : ∀ z, i ≤ z → z ≤ i + 39 → R1 z = R z) (h : eLw R i j k) : eLw R1 i j k := by
  have e0 := e i (by omega) (by omega)
  refine ⟨by rw [e0]; exact h.1, by rw [e0]; exact h.2.1, fun z h0 h1 => ?_⟩
  rw [e (i + 1) (by omega) (by omega)]
  exact h.2.2 z h0 h1
abbrev cX4_init : ByteArray := prog_6_method_1_code
def yX4_init : MethodName := ⟨RX4, "<init>", "(LWorkChains$Chart;LWorkChains$Course;)V"⟩
theorem dX4_init_0 : decode cX4_init 0 = .ok (.aload_n 0, 1) := by decide +kernel
theorem dX4_init_1 : decode cX4_init 1 = .ok (.invokespecial 3, 3) := by decide +kernel
theorem dX4_init_4 : decode cX4_init 4 = .ok (.aload_n 0, 1) := by decide +kernel
theorem dX4_init_5 : decode cX4_init 5 = .ok (.bipush 36, 2) := by decide +kernel
theorem dX4_init_7 : decode cX4_init 7 = .ok (.bipush 41, 2) := by decide +kernel
theorem dX4_init_9 : decode cX4_init 9 = .ok (.multianewarray 9 2, 4) := by decide +kernel
theorem dX4_init_13 : decode cX4_init 13 = .ok (.putfield 11, 3) := by decide +kernel
theorem dX4_init_16 : decode cX4_init 16 = .ok (.aload_n 0, 1) := by decide +kernel
theorem dX4_init_17 : decode cX4_init 17 = .ok (.bipush 16, 2) := by decide +kernel
theorem dX4_init_19 : decode cX4_init 19 = .ok (.newarray .int, 2) := by decide +kernel
theorem dX4_init_21 : decode cX4_init 21 = .ok (.putfield 16, 3) := by decide +kernel
theorem dX4_init_24 : decode cX4_init 24 = .ok (.aload_n 0, 1) := by decide +kernel
theorem dX4_init_25 : decode cX4_init 25 = .ok (.bipush 36, 2) := by decide +kernel
theorem dX4_init_27 : decode cX4_init 27 = .ok (.newarray .int, 2) := by decide +kernel
theorem dX4_init_29 : decode cX4_init 29 = .ok (.putfield 20, 3) := by decide +kernel
theorem dX4_init_32 : decode cX4_init 32 = .ok (.aload_n 0, 1) := by decide +kernel
theorem dX4_init_33 : decode cX4_init 33 = .ok (.aload_n 1, 1) := by decide +kernel
theorem dX4_init_34 : decode cX4_init 34 = .ok (.putfield 23, 3) := by decide +kernel
theorem dX4_init_37 : decode cX4_init 37 = .ok (.aload_n 0, 1) := by decide +kernel
theorem dX4_init_38 : decode cX4_init 38 = .ok (.aload_n 2, 1) := by decide +kernel
theorem dX4_init_39 : decode cX4_init 39 = .ok (.putfield 27, 3) := by decide +kernel
theorem dX4_init_42 : decode cX4_init 42 = .ok (.return_, 1) := by decide +kernel
theorem q_511 : Cond.methodLink RX4 3 Lib.objectInit ∈ zTB := zmem 511 (by decide +kernel) rfl
theorem q_512 : Cond.classLink RX4 9 "[[I" ∈ zTB := zmem 512 (by decide +kernel) rfl
set_option maxHeartbeats 4000000 in
set_option maxRecDepth 100000 in
def F_X4_init (i j k : Nat) (X Y : Nat → Int → Int) (R : Nat → Int → Option Nat)  : Prop := (∀ i j, rI (X i j)) → (∀ i j, rL (Y i j)) → ∀ X1 : Nat → Int → Int, X1 = mrX X (i + 1) 36 → (∀ i j, rI (X1 i j)) → (∀ R2 : Nat → Int → Option Nat, R2 = mrR R (i + 1) 36 → (∀ R3 : Nat → Int → Option Nat, R3 = zU R2 (i) 2 (some ((i + 1))) → (∀ X4 : Nat → Int → Int, X4 = zZ X1 (i + 38) 0 → (∀ i j, rI (X4 i j)) → (∀ R5 : Nat → Int → Option Nat, R5 = zU R3 (i) 3 (some ((i + 38))) → (∀ X6 : Nat → Int → Int, X6 = zZ X4 (i + 39) 0 → (∀ i j, rI (X6 i j)) → (∀ R7 : Nat → Int → Option Nat, R7 = zU R5 (i) 4 (some ((i + 39))) → (∀ R8 : Nat → Int → Option Nat, R8 = zU R7 (i) 0 (some (j)) → (∀ R9 : Nat → Int → Option Nat, R9 = zU R8 (i) 1 (some (k)) → ((∀ z, (z < i ∨ i + 39 < z) → X6 z = X z) ∧ (∀ z, (z < i ∨ i + 39 < z) → R9 z = R z) ∧ eLw R9 i j k)))))))))
set_option maxHeartbeats 4000000 in
set_option maxRecDepth 100000 in
theorem w_X4_init {l : Launch} {D : va_G} {cy : Nat → ClassId} {bs : Nat} {sa : Nat → Nat} {kd len : Nat → Nat} {X Y : Nat → Int → Int} {R : Nat → Int → Option Nat} {i j k : Nat} (hK : kT kd len i tLaws)  (hF : F_X4_init i j k X Y R ) : Met l yX4_init (.code yX4_init cX4_init 3 none :: zTB) (zRmG 1 60 39 1564) (zPcA D cy bs sa (i + 1) kd len X Y R [.ref (bs + (i)), .ref (bs + (j)), .ref (bs + (k))]) (zQv D cy bs (i + 40) kd len (fun st => st.2.1 = Y ∧ ((∀ z, (z < i ∨ i + 39 < z) → st.1 z = X z) ∧ (∀ z, (z < i ∨ i + 39 < z) → st.2.2 z = R z) ∧ eLw st.2.2 i j k))) 39 1564 (zA bs) := by
  refine zstartGA (by decide) (Nat.le_of_ble_eq_true rfl) ?_
  intro p e s m args below meth c ls C hE hA hH hr hlk hnm hl hargs
  have hF := hF hH.2.2.1 hH.2.2.2
  have hS : va_S (zA bs) s.heap s.heap [] := va_S.rf
  have hl : lv_has ls 3 [(0, .ref (bs + (i))), (1, .ref (bs + (j))), (2, .ref (bs + (k)))] := hl
  refine lv_aload_n C.1 C.2.1 dX4_init_0 rfl (lv_at hl 0 rfl) ?_
  refine zd_oinit C hl.1 q_511 q_154 q_155 (Nat.le_of_ble_eq_true rfl) dX4_init_1 (Nat.le_of_ble_eq_true rfl) (Nat.le_of_ble_eq_true rfl) ?_
  refine lv_aload_n C.1 C.2.1 dX4_init_4 rfl (lv_at hl 0 rfl) ?_
  refine zd_bipush C (by decide) dX4_init_5 ?_
  refine zd_bipush C (by decide) dX4_init_7 ?_
  refine zd_mnew (n := 36) (k := 41) C hH hS q_512 q_218 hA.2 (by decide) (by decide) (kT_k (k := 21) (l := 36) hK 1 (by decide +kernel)) (kT_l (k := 21) (l := 36) hK 1 (by decide +kernel)) (kT_rows hK) (Nat.le_of_ble_eq_true rfl) (Nat.le_of_ble_eq_true rfl) dX4_init_9 (fun H hH hS => ?_)
  obtain ⟨X1, eX1⟩ : ∃ z, z = mrX X (i + 1) 36 := ⟨_, rfl⟩
  rw [← eX1] at hH
  have hF := hF X1 eX1 hH.2.2.1
  obtain ⟨R2, eR2⟩ : ∃ z, z = mrR R (i + 1) 36 := ⟨_, rfl⟩
  rw [← eR2] at hH
  have hF := hF R2 eR2
  refine zp4_2 C hH hS (by omega) (kT_0 (k := 4) (l := 0) hK (by decide +kernel)) q_516 hnm rfl dX4_init_13 (fun H locs hH hS => ?_)
  obtain ⟨R3, eR3⟩ : ∃ z, z = zU R2 (i) 2 (some ((i + 1))) := ⟨_, rfl⟩
  rw [← eR3] at hH
  have hF := hF R3 eR3
  refine lv_aload_n C.1 C.2.1 dX4_init_16 rfl (lv_at hl 0 rfl) ?_
  refine zd_bipush C (by decide) dX4_init_17 ?_
  refine zd_newI C hH hS q_218 (n := 16) rfl (by decide) (kT_k (k := 13) (l := 16) hK 38 (by decide +kernel)) (kT_l (k := 13) (l := 16) hK 38 (by decide +kernel)) (Nat.le_of_ble_eq_true rfl) (Nat.le_of_ble_eq_true rfl) dX4_init_19 (fun H hH hS => ?_)
  obtain ⟨X4, eX4⟩ : ∃ z, z = zZ X1 (i + 38) 0 := ⟨_, rfl⟩
  rw [← eX4] at hH
  have hF := hF X4 eX4 hH.2.2.1
  refine zp4_3 C hH hS (by omega) (kT_0 (k := 4) (l := 0) hK (by decide +kernel)) q_517 hnm rfl dX4_init_21 (fun H locs hH hS => ?_)
  obtain ⟨R5, eR5⟩ : ∃ z, z = zU R3 (i) 3 (some ((i + 38))) := ⟨_, rfl⟩
  rw [← eR5] at hH
  have hF := hF R5 eR5
  refine lv_aload_n C.1 C.2.1 dX4_init_24 rfl (lv_at hl 0 rfl) ?_
  refine zd_bipush C (by decide) dX4_init_25 ?_
  refine zd_newI C hH hS q_218 (n := 36) rfl (by decide) (kT_k (k := 13) (l := 36) hK 39 (by decide +kernel)) (kT_l (k := 13) (l := 36) hK 39 (by decide +kernel)) (Nat.le_of_ble_eq_true rfl) (Nat.le_of_ble_eq_true rfl) dX4_init_27 (fun H hH hS => ?_)
  obtain ⟨X6, eX6⟩ : ∃ z, z = zZ X4 (i + 39) 0 := ⟨_, rfl⟩
  rw [← eX6] at hH
  have hF := hF X6 eX6 hH.2.2.1
  refine zp4_4 C hH hS (by omega) (kT_0 (k := 4) (l := 0) hK (by decide +kernel)) q_518 hnm rfl dX4_init_29 (fun H locs hH hS => ?_)
  obtain ⟨R7, eR7⟩ : ∃ z, z = zU R5 (i) 4 (some ((i + 39))) := ⟨_, rfl⟩
  rw [← eR7] at hH
  have hF := hF R7 eR7
  refine lv_aload_n C.1 C.2.1 dX4_init_32 rfl (lv_at hl 0 rfl) ?_
  refine lv_aload_n C.1 C.2.1 dX4_init_33 rfl (lv_at hl 1 rfl) ?_
  refine zp4_0 C hH hS (by omega) (kT_0 (k := 4) (l := 0) hK (by decide +kernel)) q_514 hnm rfl dX4_init_34 (fun H locs hH hS => ?_)
  obtain ⟨R8, eR8⟩ : ∃ z, z = zU R7 (i) 0 (some (j)) := ⟨_, rfl⟩
  rw [← eR8] at hH
  have hF := hF R8 eR8
  refine lv_aload_n C.1 C.2.1 dX4_init_37 rfl (lv_at hl 0 rfl) ?_
  refine lv_aload_n C.1 C.2.1 dX4_init_38 rfl (lv_at hl 2 rfl) ?_
  refine zp4_1 C hH hS (by omega) (kT_0 (k := 4) (l := 0) hK (by decide +kernel)) q_515 hnm rfl dX4_init_39 (fun H locs hH hS => ?_)
  obtain ⟨R9, eR9⟩ : ∃ z, z = zU R8 (i) 1 (some (k)) := ⟨_, rfl⟩
  rw [← eR9] at hH
  have hF := hF R9 eR9
  refine W_raise (cells := 39) (slots := 1564) (Nat.le_of_ble_eq_true rfl) (Nat.le_of_ble_eq_true rfl) ?_
  exact zd_vretG C hr hlk hH hS (⟨rfl, hF⟩) dX4_init_42
set_option maxHeartbeats 8000000 in
set_option maxRecDepth 100000 in
theorem v_X4_init {X Y : Nat → Int → Int} {R : Nat → Int → Option Nat} {i j k : Nat}  (hp : X i = fun _ => 0) : F_X4_init i j k X Y R  := by
  unfold F_X4_init
  intro hX hY
  intro X1
  intro eX1
  intro rX1
  intro R2
  intro eR2
  intro R3
  intro eR3
  intro X4
  intro eX4
  intro rX4
  intro R5
  intro eR5
  intro X6
  intro eX6
  intro rX6
  intro R7
  intro eR7
  intro R8
  intro eR8
  intro R9
  intro eR9
  refine ⟨fun z g => by rw [eX6, zZ_o (by omega), eX4, zZ_o (by omega), eX1, mrX_o (by omega)], fun z g => by rw [eR9, zU_o (by omega), eR8, zU_o (by omega), eR7, zU_o (by omega), eR5, zU_o (by omega), eR3, zU_o (by omega), eR2, mrR_o (by omega)], ⟨by rw [eR9, zU_n (by omega), eR8]; exact zU_s, by rw [eR9]; exact zU_s⟩, ⟨by rw [eR9, zU_n (by omega), eR8, zU_n (by omega), eR7, zU_n (by omega), eR5, zU_n (by omega), eR3]; exact zU_s, by rw [eR9, zU_n (by omega), eR8, zU_n (by omega), eR7, zU_n (by omega), eR5]; exact zU_s, by rw [eR9, zU_n (by omega), eR8, zU_n (by omega), eR7]; exact zU_s⟩, fun z h0 h1 => ?_⟩
  rw [eR9, zU_o (by omega), eR8, zU_o (by omega), eR7, zU_o (by omega), eR5, zU_o (by omega), eR3, zU_o (by omega), eR2]
  exact mrR_s h0 h1
theorem c_X4_init {l : Launch} {D : va_G} {cy : Nat → ClassId} {bs : Nat} {sa : Nat → Nat} {kd len : Nat → Nat} {X Y : Nat → Int → Int} {R : Nat → Int → Option Nat} {i j k : Nat} (hK : kT kd len i tLaws)  (hp : X i = fun _ => 0) : Met l yX4_init (.code yX4_init cX4_init 3 none :: zTB) (zRmG 1 60 39 1564) (zPcA D cy bs sa (i + 1) kd len X Y R [.ref (bs + (i)), .ref (bs + (j)), .ref (bs + (k))]) (zQv D cy bs (i + 40) kd len (fun st => st.2.1 = Y ∧ ((∀ z, (z < i ∨ i + 39 < z) → st.1 z = X z) ∧ (∀ z, (z < i ∨ i + 39 < z) → st.2.2 z = R z) ∧ eLw st.2.2 i j k))) 39 1564 (zA bs) := w_X4_init hK  (v_X4_init  hp)
