/-! BYTES COPIED -/
section ZPB
variable {p : Program} {l : Launch} {e : Env} {R0 : Room} {s : State} {m : MethodId} {args : Array Value} {below : List Frame} {meth : Method} {c : Code} {H : Heap} {locs : List Loc} {cells slots : Nat} {Q : State → Prop}
variable {cc : ByteArray} {pc nL : Nat} {ls : Array Slot} {rest : List Value} {D : va_G} {cy : Nat → ClassId} {own : String} {bs N : Nat} {kd len : Nat → Nat} {X Y : Nat → Int → Int} {R : Nat → Int → Option Nat} {H0 : Heap}
theorem zd_copyb (C : zC p m c cc nL s args own D cy) (hls : ls.size = nL) (hH : zH D cy bs N kd len X Y R H) (hS : va_S (zA bs) H0 H locs) {i j ix : Nat} (hi : i < N) (hj : j < N) (ki : kd i = 12) (kj : kd j = 12)
    (q1 : Cond.methodLink own ix arraycopyName ∈ zTB) (q2 : Cond.native arraycopyName ∈ zTB) (q3 : Cond.static arraycopyName ∈ zTB) (q4 : Cond.initialized "java/lang/System" ∈ zTB)
    {sp dp n : Int} (p1 : 0 ≤ sp) (p2 : 0 ≤ dp) (p3 : 0 ≤ n) (p4 : sp + n ≤ len j) (p5 : dp + n ≤ len i) (hbt : ∀ y, sp ≤ y → y < sp + n → -128 ≤ X j y ∧ X j y ≤ 127) (hni : len i < 2147483648) (hnj : len j < 2147483648)
    (hframes : 1 ≤ R0.frames) (hlocals : (rest.map fun v => v.category).sum + (nativeFrameWords "java/lang/System" "arraycopy" 5 + 11) ≤ R0.locals) (hdg : decode cc pc = .ok (.invokestatic ix, 3))
    (kk : ∀ (H1 : Heap) (locs1 : List Loc), zH D cy bs N kd len (zCp X j i sp dp n) Y R H1 → va_S (zA bs) H0 H1 locs1 → W p l e R0 s m args below meth c H1 locs1 cells slots Q (F0 m (pc + 3) ls rest)) :
    W p l e R0 s m args below meth c H locs cells slots Q (F0 m pc ls (.int (zI n) :: .int (zI dp) :: .ref (bs + i) :: .int (zI sp) :: .ref (bs + j) :: rest)) := by
  have rS : rI sp := ⟨by omega, by omega⟩
  have rD : rI dp := ⟨by omega, by omega⟩
  have rN : rI n := ⟨by omega, by omega⟩
  have nat : ∀ z : Int, 0 ≤ z → rI z → (zI z).toNatClampNeg = z.toNat := fun z h r => by
    show (zI z).toInt.toNat = _
    rw [zI_toInt r]
  have pos : ∀ z : Int, 0 ≤ z → rI z → ¬ zI z < 0 := fun z h r g => by
    have := (zI_lt r (show rI 0 by exact ⟨by decide, by decide⟩)).mp g
    omega
  intro T hT X1
  have hc0 : H[bs + j]? = some (vp_cell (cy 0) (len j, .inl (fun q => zI (X j q)))) := zH_one hH hj (e := .inl (cy 0, len j, .inl (fun q => zI (X j q)))) (by rw [kj]; rfl) 0 _ rfl
  have hc1 : H[bs + i]? = some (vp_cell (cy 0) (len i, .inl (fun q => zI (X i q)))) := zH_one hH hi (e := .inl (cy 0, len i, .inl (fun q => zI (X i q)))) (by rw [ki]; rfl) 0 _ rfl
  obtain ⟨-, k0, hk0, cm0, hkk0⟩ := (C.2.2.2.2.2.2 0 _ rfl).1 (len j) (fun q => .int (zI (X j q)))
  obtain ⟨-, k1, hk1, cm1, hkk1⟩ := (C.2.2.2.2.2.2 0 _ rfl).1 (len i) (fun q => .int (zI (X i q)))
  obtain ⟨vm', X', step⟩ := X1.arraycopy C.1 C.2.2.2.1 (C.2.2.2.2.1 _ q1) (C.2.2.2.2.1 _ q2) (C.2.2.2.2.1 _ q3) (C.2.2.2.2.1 _ q4) (srcPos := zI sp) (destPos := zI dp) (n := zI n) (by rw [hT]; exact hc0) (by rw [hT]; exact hc1)
    (fun _ h => by cases h) (fun _ h => by cases h) (fun h => by cases h) (fun h => by cases h) hk0 hk1 hkk0 hkk1 (by rfl) (pos _ p1 rS) (pos _ p2 rD) (pos _ p3 rN)
    (by rw [zI_toInt rS, zI_toInt rN]; show ¬ _ > ((arrV _ _ _).slots.size : Int); rw [arrV_size]; omega)
    (by rw [zI_toInt rD, zI_toInt rN]; show ¬ _ > ((arrV _ _ _).slots.size : Int); rw [arrV_size]; omega)
    (fun vm₁ _ q hq => by
      rw [nat _ p1 rS]
      rw [nat _ p3 rN] at hq
      have e : (arrV (cy 0) (len j) (fun q => Value.int (zI (X j q)))).slots.getD (sp.toNat + q) .null = .int (zI (X j ((sp.toNat + q : Nat) : Int))) := by
        rw [Array.getD_eq_getD_getElem?, arrV_read _ _ (by omega)]
        rfl
      dsimp only
      rw [e]
      have hb := hbt ((sp.toNat + q : Nat) : Int) (by omega) (by omega)
      have hr : rI (X j ((sp.toNat + q : Nat) : Int)) := hH.2.2.1 _ _
      refine ⟨?_, trivial⟩
      show (decide (-128 ≤ zI (X j ((sp.toNat + q : Nat) : Int))) && decide (zI (X j ((sp.toNat + q : Nat) : Int)) ≤ 127)) = true
      have e1 : zI (-128) = (-128 : Int32) := by decide
      have e2 : zI 127 = (127 : Int32) := by decide
      have h1 := (zI_le (a := -128) ⟨by decide, by decide⟩ hr).mpr hb.1
      have h2 := (zI_le (b := 127) hr ⟨by decide, by decide⟩).mpr hb.2
      rw [e1] at h1
      rw [e2] at h2
      rw [decide_eq_true h1, decide_eq_true h2]
      rfl)
    (g := F0 m pc ls (.int (zI n) :: .int (zI dp) :: .ref (bs + i) :: .int (zI sp) :: .ref (bs + j) :: rest)) rfl (by rw [hls]; exact C.2.2.1.symm) (rest := rest) rfl (by rw [C.2.1]; exact hdg) hframes (by show 2 * 0 + _ + _ ≤ _; omega)
  have e1 : copied (arrV (cy 0) (len j) (fun q => Value.int (zI (X j q)))) (arrV (cy 0) (len i) (fun q => Value.int (zI (X i q)))) (zI sp) (zI dp) (zI n) = vp_cell (cy 0) (len i, .inl (fun q : Nat => zI (zCp X j i sp dp n i q))) := by
    have h : copied (arrV (cy 0) (len j) (fun q => Value.int (zI (X j q)))) (arrV (cy 0) (len i) (fun q => Value.int (zI (X i q)))) (zI sp) (zI dp) (zI n) = vp_cell (cy 0) (len i, .inl (va_cpy (fun q : Nat => zI (X j q)) (fun q : Nat => zI (X i q)) (zI sp).toNatClampNeg (zI dp).toNatClampNeg (zI n).toNatClampNeg)) := va_copied (fun z => Value.int z) (cy 0) (cy 0) (fun q : Nat => zI (X j q)) (fun q : Nat => zI (X i q)) (show (zI sp).toNatClampNeg + (zI n).toNatClampNeg ≤ len j by rw [nat _ p1 rS, nat _ p3 rN]; omega)
    have g : va_cpy (fun q : Nat => zI (X j q)) (fun q : Nat => zI (X i q)) (zI sp).toNatClampNeg (zI dp).toNatClampNeg (zI n).toNatClampNeg = fun q : Nat => zI (zCp X j i sp dp n i q) := by
      funext q
      unfold va_cpy zCp
      rw [nat _ p1 rS, nat _ p2 rD, nat _ p3 rN]
      by_cases c : dp ≤ q ∧ (q : Int) < dp + n
      · rw [if_pos (by omega), if_pos ⟨rfl, c⟩]
        show zI (X j ((sp.toNat + (q - dp.toNat) : Nat) : Int)) = zI (X j (sp + ((q : Int) - dp)))
        rw [show ((sp.toNat + (q - dp.toNat) : Nat) : Int) = sp + ((q : Int) - dp) by omega]
      · rw [if_neg (by omega), if_neg (fun w => c w.2)]
    rw [g] at h
    exact h
  have hl : bs + i < H.size := (Array.getElem?_eq_some_iff.mp hc1).1
  have oq : ∀ q : Nat, q ≠ bs + i → (H.setIfInBounds (bs + i) (vp_cell (cy 0) (len i, .inl (fun q : Nat => zI (zCp X j i sp dp n i q)))))[q]? = H[q]? := fun q hq => by simp [Array.getElem?_setIfInBounds, Ne.symm hq]
  have hheap : ((T.setVm vm').setCell (bs + i) (vp_cell (cy 0) (len i, .inl (fun q : Nat => zI (zCp X j i sp dp n i q))))).heap = H.setIfInBounds (bs + i) (vp_cell (cy 0) (len i, .inl (fun q : Nat => zI (zCp X j i sp dp n i q)))) := by
    rw [← hT]
    rfl
  dsimp only at X' step
  rw [e1] at X' step
  have hX1 : ∀ a b, rI (zCp X j i sp dp n a b) := fun a b => by
    unfold zCp
    split
    · exact hH.2.2.1 _ _
    · exact hH.2.2.1 _ _
  obtain ⟨t, a1, b1⟩ := kk _ _ (zH_put hH (fun k hk => ⟨zCp_o hk, rfl, rfl⟩) (by simp) oq hX1 hH.2.2.2 (by rw [ki]; show (H.setIfInBounds _ _)[bs + i]? = _; simp [Array.getElem?_setIfInBounds, hl])) ⟨by simp; exact hS.1, fun q g1 g2 => by
      rw [oq q (fun e => g2 (by rw [e]; exact Nat.le_add_right _ _))]
      exact hS.2.1 q g1 g2, fun q hq => by
      rcases List.mem_append.mp hq with h | h
      · exact hS.2.2 q h
      · obtain ⟨z, -, hz⟩ := List.mem_map.mp h
        rw [← hz]
        exact Nat.le_add_right _ _⟩ _ hheap X'
  exact ⟨t, step t a1, b1⟩
end ZPB
