/-! NEW OBJECTS -/
/-- arrays of rows of ints may be made -/
def zAI (U : State) : Prop := (Cond.arrayOver (.array .int)).before #[] U = true
theorem zAI_of {A : Array Value} {U : State} (h : (Cond.arrayOver (.array .int)).before A U = true) : zAI U := h
theorem zAI_use {A : Array Value} {U : State} (h : zAI U) : (Cond.arrayOver (.array .int)).before A U = true := h
theorem zAI_moved {u U : State} (hvm : u.vm.Alike U.vm) (h : zAI u) : zAI U := by
  obtain ⟨comp, c, k, h1, h2, h3, h4, h5⟩ := arrayOverA_spec h
  obtain ⟨k', hk', he⟩ := hvm.2.2 _ _ h3
  have hi : (U.vm.classes.findIdx? fun (x : Class) => match x.kind with | .array component _ => component == comp | _ => false) = some c := by
    rw [hvm.findIdx?_eq _ (fun _ => rfl)]
    exact h2
  have hkind : k'.kind = .array comp (.array .int) := by rw [he]; exact h4
  have f1 : U.vm.findClass (FieldType.array .int).toString = some comp := by rw [hvm.findClass]; exact h1
  have f2 : U.vm.findClass ("[" ++ (FieldType.array .int).toString) = some c := by rw [hvm.findClass]; exact h5
  unfold zAI Cond.before Cond.holds
  simp only [Cond.value]
  rw [f1, Option.bind_some]
  refine (congrArg (fun o : Option Nat => (o.bind (fun c => (U.vm.classes[c]?).map fun (k : Class) => match k.kind with | .array _ ty => decide (ty = FieldType.array .int) && decide (U.vm.findClass ("[" ++ (FieldType.array .int).toString) = some c) | _ => false) == some true)) hi).trans ?_
  simp [hk', hkind, f2]
def zAQ (U : State) : Prop := zAO U ∧ zAI U
theorem zAQ_moved {u U : State} (hvm : u.vm.Alike U.vm) (h : zAQ u) : zAQ U :=
  ⟨⟨va_AO.moved hvm h.1.1, va_AO.moved hvm h.1.2.1, va_AO.moved hvm h.1.2.2.1, va_AO.moved hvm h.1.2.2.2.1, va_AO.moved hvm h.1.2.2.2.2⟩, zAI_moved hvm h.2⟩
/-- a constructor's start: arrays of references may be made, too -/
def zPcA (D : va_G) (cy : Nat → ClassId) (bs : Nat) (sa : Nat → Nat) (N : Nat) (kd len : Nat → Nat) (X Y : Nat → Int → Int) (R : Nat → Int → Option Nat) (av : List Value) : Array Value → State → Prop :=
  va_Pc av (fun U => zH D cy bs N kd len X Y R U.heap ∧ zE D cy bs sa U ∧ zAQ U)
theorem zPcA_blind {D : va_G} {cy : Nat → ClassId} {bs : Nat} {sa : Nat → Nat} {N : Nat} {kd len : Nat → Nat} {X Y : Nat → Int → Int} {R : Nat → Int → Option Nat} {av : List Value} : FrameBlind (zPcA D cy bs sa N kd len X Y R av) :=
  fun _ U _ _ q => ⟨q.1, q.2.1, zE.same (u := U) rfl rfl q.2.2.1, zAQ_moved (u := U) (Vm.Alike.refl U.vm) q.2.2.2⟩
/-- the cells' kinds and lengths by a table -/
def kT (kd len : Nat → Nat) (i : Nat) (T : List (Nat × Nat)) : Prop := ∀ o, o < T.length → kd (i + o) = (T.getD o (0, 0)).1 ∧ len (i + o) = (T.getD o (0, 0)).2
theorem kT_sub {kd len : Nat → Nat} {i : Nat} {T : List (Nat × Nat)} (h : kT kd len i T) (n : Nat) (T' : List (Nat × Nat)) (hs : ∀ o, o < T'.length → T.getD (n + o) (0, 0) = T'.getD o (0, 0) ∧ n + o < T.length) : kT kd len (i + n) T' := by
  intro o ho
  have q := hs o ho
  have b := h (n + o) q.2
  rw [q.1, ← Nat.add_assoc] at b
  exact b

section ZA
variable {p : Program} {l : Launch} {e : Env} {R0 : Room} {s : State} {m : MethodId} {args : Array Value} {below : List Frame} {meth : Method} {c : Code} {H : Heap} {locs : List Loc} {cells slots : Nat} {Q : State → Prop}
variable {cc : ByteArray} {pc nL : Nat} {ls : Array Slot} {rest : List Value} {D : va_G} {cy : Nat → ClassId} {own : String} {bs N : Nat} {sa : Nat → Nat} {kd len : Nat → Nat} {X Y : Nat → Int → Int} {R : Nat → Int → Option Nat} {H0 : Heap}
theorem zpreA (hE : zE D cy bs sa s) (hA : zAQ s) (hH : zH D cy bs N kd len X Y R H) (hS : va_S (zA bs) s.heap H locs) (av : List Value) : PreS s H (zPcA D cy bs sa N kd len X Y R av) av :=
  ⟨zPcA_blind, fun U hU hW => ⟨rfl, by rw [hU]; exact hH, zE.warm (H0 := s.heap) (locs := locs) hW (by rw [hU]; exact hS) hE, zAQ_moved hW.alike hA⟩⟩
theorem zstartGA {l : Launch} {y : MethodName} {bytes : ByteArray} {maxL fr lo K SL : Nat} {ret : Option FieldType} {D : va_G} {cy : Nat → ClassId} {bs N : Nat} {sa : Nat → Nat} {kd len : Nat → Nat} {X Y : Nat → Int → Int} {R : Nat → Int → Option Nat} {av : List Value} {Qc : Array Value → State → Outcome → State → Prop} (hy : plainName y.cls = true) (hlen : (lg_sl av).length ≤ maxL)
    (body : ∀ (p : Program) (e : Env) (s : State) (m : MethodId) (args : Array Value) (below : List Frame) (meth : Method) (c : Code) (ls : Array Slot), zC p m c bytes maxL s args y.cls D cy → zE D cy bs sa s → zAQ s → zH D cy bs N kd len X Y R s.heap → meth.sig.returnType = ret → meth.locks = false → meth.name = y.name → lv_has ls maxL (lv_args 0 av) → args = av.toArray →
      W p l e (zRmG fr lo K SL) s m args below meth c s.heap [] 0 0 (MQ below Qc args s K SL (zA bs)) (F0 m 0 ls [])) : Met l y (.code y bytes maxL ret :: zTB) (zRmG fr lo K SL) (zPcA D cy bs sa N kd len X Y R av) Qc K SL (zA bs) := by
  refine Met.ofW (cc := bytes) (maxL := maxL) (ret := ret) hy rfl ?_
  intro p e s m args below meth c s₁ B hml hv
  obtain ⟨rfl, hH, hE, hA⟩ := hv
  have hts := atoms_spec B.pre
  rw [lg_entry_eq]
  exact body p e s m _ below meth c _ ⟨B.exec, B.bytes, hml, findClass_of_methodNamed B.named, fun w hw => hts w (List.mem_cons_of_mem _ hw), hE.1⟩ hE hA hH B.returns B.notSynchronized (name_of_methodNamed B.named B.method).1 (lv_entry av hlen) rfl
theorem zd_newO {ci nf idx : Nat} {CC : String} {T : u_T} {fs : List Value} (C : zC p m c cc nL s args own D cy) (hH : zH D cy bs N kd len X Y R H) (hS : va_S (zA bs) H0 H locs) (hc : vwCl[ci]? = some (CC, T, nf)) (hin : ∀ w ∈ u_ws CC T nf, w ∈ zTB) (ty : Nat → FieldType) (hty : ∀ k, k < nf → parseFieldDescriptor (T k).2.2.1 = some (ty k))
    (q1 : Cond.classLink own idx CC ∈ zTB) (q2 : Cond.instantiable CC nf ∈ zTB) (q3 : Cond.initialized CC ∈ zTB) (hk : kd N = ci) (hz : zc cy bs ci (len N) (fun _ => 0) (fun _ => 0) (fun _ => none) = .inr (ci, fs)) (hfs : ∀ j, j < nf → defaultValue (ty j) = vp_V fs j) (hcl : cells + 1 ≤ R0.cells) (hsl : slots + nf ≤ R0.slots) (hdg : decode cc pc = .ok (.new idx, 3))
    (kk : ∀ H1 : Heap, zH D cy bs (N + 1) kd len (zZ X N 0) (zZ Y N 0) (zZ R N none) H1 → va_S (zA bs) H0 H1 locs → W p l e R0 s m args below meth c H1 locs (cells + 1) (slots + nf) Q (F0 m (pc + 3) ls (.ref (bs + N) :: rest))) : W p l e R0 s m args below meth c H locs cells slots Q (F0 m pc ls rest) := by
  have ht := C.2.2.2.2.1
  have hKn := C.2.2.2.2.2.1 ci _ hc
  refine W.newcK C.1 C.2.1 C.2.2.2.1 (ht _ q1) (ht _ q2) (ht _ q3) rfl hdg hcl hsl hKn.2.1 hH.1 fun H1 kC hkC e1 z1 o1 => ?_
  have z2 : H1.size = H.size + 1 := by rw [z1, hH.1]
  have o2 : ∀ q : Nat, q < H.size → H1[q]? = H[q]? := fun q hq => o1 q (by rw [← hH.1]; exact hq)
  refine kk H1 (zH_new hH z2 o2 (fun a h => ⟨zZ_o (by omega), zZ_o (by omega), zZ_o (by omega)⟩) (zZ_rI hH.2.2.1 (by decide)) (zZ_rL hH.2.2.2 (by decide)) ?_) (zS_new hS z2 o2)
  rw [hk, zZ_s, zZ_s, zZ_s, hz]
  exact ⟨_, hc, (u_born ty ht hin hKn hkC e1 hty).to hfs⟩
theorem zd_newR {k idx : Nat} {CC : String} (C : zC p m c cc nL s args own D cy) (hH : zH D cy bs N kd len X Y R H) (hS : va_S (zA bs) H0 H locs) (q1 : Cond.classLink own idx CC ∈ zTB) (hA : va_AO CC s) (htt : (zty cy)[k + 4]? = some (cy (k + 4), .object CC)) {n : Nat} {z : Int} (hz : z = (n : Int)) (hn : n ≤ 100000) (hk : kd N = k + 16) (hl : len N = n) (hc : cells + 1 ≤ R0.cells) (hs : slots + n ≤ R0.slots) (hdg : decode cc pc = .ok (.anewarray idx, 3))
    (kk : ∀ H1 : Heap, zH D cy bs (N + 1) kd len X Y (zZ R N none) H1 → va_S (zA bs) H0 H1 locs → W p l e R0 s m args below meth c H1 locs (cells + 1) (slots + n) Q (F0 m (pc + 3) ls (.ref (bs + N) :: rest))) : W p l e R0 s m args below meth c H locs cells slots Q (F0 m pc ls (.int (zI z) :: rest)) := by
  subst hz
  have ht := C.2.2.2.2.1
  refine W.anew C.1 C.2.1 C.2.2.2.1 (ht _ q1) (va_AO.use hA) rfl hdg rfl (zn_neg hn) (by rw [zn_nat hn]; omega) hc (by rw [zn_nat hn]; exact hs) fun cA kA comp f1 f2 f3 f4 => ?_
  rw [zn_nat hn]
  have hcy : cA = cy (k + 4) := by
    obtain ⟨-, kA', comp', -, -, -, g⟩ := C.2.2.2.2.2.2 (k + 4) _ htt
    exact Option.some.inj (f1.symm.trans g)
  subst hcy
  generalize hH1 : H.push ({ cls := cy (k + 4), slots := Array.replicate n .null, vm := .none } : Cell) = H1
  have z2 : H1.size = H.size + 1 := by rw [← hH1, Array.size_push]
  have e1 : H1[H.size]? = some (arrV (cy (k + 4)) n (fun _ => .null)) := by rw [← hH1, Array.getElem?_push_size, ← arrV_new]
  have o2 : ∀ q : Nat, q < H.size → H1[q]? = H[q]? := fun q hq => by rw [← hH1, Array.getElem?_push, if_neg (Nat.ne_of_lt hq)]
  rw [hH.1]
  refine kk H1 (zH_new hH z2 o2 (fun a h => ⟨rfl, rfl, zZ_o (by omega)⟩) hH.2.2.1 hH.2.2.2 ?_) (zS_new hS z2 o2)
  rw [hk, zZ_s]
  show H1[bs + N]? = some (vp_cell (cy (k + 4)) (len N, .inr (.inr (.inr (.inr (fun _ => none))))))
  rw [vp_cell_q, hl, ← hH.1, e1]
  rfl
theorem zd_aastr {i j k ci : Nat} {r : vw_C} {vs : List Value} {z : Int} (C : zC p m c cc nL s args own D cy) (hH : zH D cy bs N kd len X Y R H) (hS : va_S (zA bs) H0 H locs) (hi : i < N) (hk : kd i = k + 16) (hj : j < N) (hkj : kd j = ci) (hz : zc cy bs ci (len j) (X j) (Y j) (R j) = .inr (ci, vs)) (hc : vwCl[ci]? = some r) (htt : (zty cy)[k + 4]? = some (cy (k + 4), .object r.1)) (h0 : 0 ≤ z) (h1 : z < len i) (hn : len i < 2147483648) (hdg : decode cc pc = .ok (.aastore, 1))
    (kk : ∀ (H1 : Heap) (locs1 : List Loc), zH D cy bs N kd len X Y (zU R i z (some j)) H1 → va_S (zA bs) H0 H1 locs1 → W p l e R0 s m args below meth c H1 locs1 cells slots Q (F0 m (pc + 1) ls rest)) : W p l e R0 s m args below meth c H locs cells slots Q (F0 m pc ls (.ref (bs + j) :: .int (zI z) :: .ref (bs + i) :: rest)) := by
  have hin := zI_in h0 h1 hn
  have hlt : (zI z).toNatClampNeg < len i := Nat.not_le.mp fun q => hin (Or.inr q)
  have hcl : H[bs + i]? = some (vp_cell (cy (k + 4)) (len i, .inr (.inr (.inr (.inr (fun j => (R i j).map (bs + ·))))))) := zH_one hH hi (e := .inl (cy (k + 4), len i, .inr (.inr (.inr (.inr (fun j => (R i j).map (bs + ·))))))) (by rw [hk]; rfl) 0 _ rfl
  obtain ⟨r', hr', cellV, g1, g2, g3, -⟩ := zH_one hH hj (e := .inr (ci, vs)) (by rw [hkj]; exact hz) 0 _ rfl
  have hcls := (C.2.2.2.2.2.1 ci r hc).2
  obtain ⟨kA, comp, k1, k2, k3, -⟩ := (C.2.2.2.2.2.2 (k + 4) _ htt).2
  have hcomp : comp = D.1 ci := Option.some.inj (k3.symm.trans hcls.1)
  subst hcomp
  obtain ⟨kC, hkC, -⟩ := hcls.2
  refine W.aast C.1 C.2.1 hcl (fun q h => by cases h) (fun h => by cases h) k1 k2 rfl hkC ⟨fun q => hin (Or.inl q), by show _ < (arrV _ _ _).slots.size; rw [arrV_size]; exact hlt⟩ g1 (fun q h => by rw [g3] at h; cases h) (by rw [g2]; exact hkC) (by rw [g2]; exact va_assign hcls) rfl rfl hdg fun H1 e1 z1 oq => ?_
  refine kk H1 _ (zH_put hH (fun j hj => ⟨rfl, rfl, zU_o hj⟩) z1 oq hH.2.2.1 hH.2.2.2 ?_) (hS.put z1 oq (Nat.le_add_right _ _))
  rw [hk]
  show H1[bs + i]? = some (vp_cell (cy (k + 4)) (len i, .inr (.inr (.inr (.inr (fun q => (zU R i z (some j) i q).map (bs + ·)))))))
  rw [e1, vp_cell_q, vp_cell_q, arrV_store]
  congr 2
  funext q
  have e := zI_idx h0 h1 hn
  unfold updV zU
  by_cases hq : q = (zI z).toNatClampNeg
  · rw [if_pos hq, if_pos ⟨rfl, by omega⟩]
    rfl
  · rw [if_neg hq, if_neg (fun x => hq (by omega))]
theorem zd_oinit {i idx : Nat} (C : zC p m c cc nL s args own D cy) (hl : ls.size = nL) (q1 : Cond.methodLink own idx Lib.objectInit ∈ zTB) (q2 : Cond.instanceMethod Lib.objectInit ∈ zTB) (q3 : Cond.code Lib.objectInit ⟨#[0xb1]⟩ 1 none ∈ zTB) (hr : (rest.map fun v => v.category).sum ≤ 8) (hdg : decode cc pc = .ok (.invokespecial idx, 3)) (h1 : 1 ≤ R0.frames) (h2 : 20 ≤ R0.locals)
    (kk : W p l e R0 s m args below meth c H locs cells slots Q (F0 m (pc + 3) ls rest)) : W p l e R0 s m args below meth c H locs cells slots Q (F0 m pc ls (.ref i :: rest)) := by
  have ht := C.2.2.2.2.1
  exact W.objInit C.1 C.2.1 C.2.2.2.1 (ht _ q1) (ht _ q2) (ht _ q3) rfl (hl.trans C.2.2.1.symm) rfl hdg h1 (by show 2 * 0 + _ + 12 ≤ _; omega) kk
variable {y : MethodName} {bytes : ByteArray} {maxL idx n fr lo K SL : Nat} {As : List Value}
/-- the words of a constructor's call -/
def zLi (own : String) (idx : Nat) (y : MethodName) (bytes : ByteArray) (maxL n : Nat) : Prop :=
  (Cond.methodLink own idx y ∈ zTB ∧ Cond.instanceMethod y ∈ zTB ∧ Cond.initialized y.cls ∈ zTB ∧ Cond.code y bytes maxL none ∈ zTB) ∧ y.name = "<init>" ∧ (y.cls ≠ "java/lang/invoke/MethodHandle" ∧ y.cls ≠ "java/lang/invoke/VarHandle") ∧ (parseMethodDescriptor y.desc).map (fun d => d.parameters.length) = some n
def zLiN (own : String) (idx : Nat) (y : MethodName) (host : String) (bytes : ByteArray) (maxL n : Nat) : Prop :=
  (Cond.methodLinkNest own idx y host ∈ zNest ∧ Cond.instanceMethod y ∈ zTB ∧ Cond.initialized y.cls ∈ zTB ∧ Cond.code y bytes maxL none ∈ zTB) ∧ y.name = "<init>" ∧ (y.cls ≠ "java/lang/invoke/MethodHandle" ∧ y.cls ≠ "java/lang/invoke/VarHandle") ∧ (parseMethodDescriptor y.desc).map (fun d => d.parameters.length) = some n
theorem zcwIG (C : zC p m c cc nL s args own D cy) (hw : zLi own idx y bytes maxL n) (hR : fr + 1 ≤ R0.frames ∧ 8 + (maxL + 11) + lo ≤ R0.locals) : CallB R0 s args own idx y bytes maxL none (.code y bytes maxL none :: zTB) (zRmG fr lo K SL) K SL n ∧ y.name = "<init>" ∧ (Cond.instanceMethod y).before args s = true := by
  obtain ⟨⟨w1, w2, w3, w4⟩, h1, h2, h3⟩ := hw
  have ht := C.2.2.2.2.1
  exact cwI n ht (zGT (zWs w4)) rfl rfl rfl (ht _ w3) (ht _ w1) (ht _ w2) h1 ⟨h2.1, h2.2, h3⟩ hR
theorem zrunIG {Qc : Array Value → State → Outcome → State → Prop} {b : Nat} (C : zC p m c cc nL s args own D cy) (hE : zE D cy bs sa s) (hA : zAQ s) (hH : zH D cy bs N kd len X Y R H) (hS : va_S (zA bs) s.heap H locs) (hl : ls.size = nL) (hM : Met l y (.code y bytes maxL none :: zTB) (zRmG fr lo K SL) (zPcA D cy bs sa N kd len X Y R (.ref b :: As)) Qc K SL (zA bs)) (hw : zLi own idx y bytes maxL n) (hR : fr + 1 ≤ R0.frames ∧ 8 + (maxL + 11) + lo ≤ R0.locals)
    (hn : As.length = n) (hr : (rest.map fun v => v.category).sum ≤ 8) (hdg : decode cc pc = .ok (.invokespecial idx, 3)) (hcl : cells + K ≤ R0.cells ∧ slots + SL ≤ R0.slots) : va_Run p l e R0 s m args below meth c H locs cells slots K SL (F0 m pc ls (As.reverse ++ .ref b :: rest)) rest (Qc (Value.ref b :: As).toArray) (zA bs) :=
  va_runI (As := As) (rest := rest) (Ts := zTB) ⟨C.1, C.2.1, C.2.2.1, C.2.2.2.1, C.2.2.2.2.1⟩ hM (zcwIG C hw hR) (zpreA hE hA hH hS _) rfl hn hl rfl (lv_room hr) hdg hcl
theorem zcwING {host : String} (C : zC p m c cc nL s args own D cy) (hE : zE D cy bs sa s) (hw : zLiN own idx y host bytes maxL n) (hR : fr + 1 ≤ R0.frames ∧ 8 + (maxL + 11) + lo ≤ R0.locals) : va_CN R0 s args own idx y host bytes maxL none (.code y bytes maxL none :: zTB) (zRmG fr lo K SL) K SL n ∧ y.name = "<init>" ∧ (Cond.instanceMethod y).before args s = true := by
  obtain ⟨⟨w1, w2, w3, w4⟩, h1, h2, h3⟩ := hw
  have ht := C.2.2.2.2.1
  exact ⟨va_cnB n ht (zGT (zWs w4)) rfl rfl rfl (hE.2.1 _ w1) (ht _ w3) ⟨h2.1, h2.2, h3⟩ hR, h1, ht _ w2⟩
theorem zrunING {host : String} {Qc : Array Value → State → Outcome → State → Prop} {b : Nat} (C : zC p m c cc nL s args own D cy) (hE : zE D cy bs sa s) (hA : zAQ s) (hH : zH D cy bs N kd len X Y R H) (hS : va_S (zA bs) s.heap H locs) (hl : ls.size = nL) (hM : Met l y (.code y bytes maxL none :: zTB) (zRmG fr lo K SL) (zPcA D cy bs sa N kd len X Y R (.ref b :: As)) Qc K SL (zA bs)) (hw : zLiN own idx y host bytes maxL n) (hR : fr + 1 ≤ R0.frames ∧ 8 + (maxL + 11) + lo ≤ R0.locals)
    (hn : As.length = n) (hr : (rest.map fun v => v.category).sum ≤ 8) (hdg : decode cc pc = .ok (.invokespecial idx, 3)) (hcl : cells + K ≤ R0.cells ∧ slots + SL ≤ R0.slots) : va_Run p l e R0 s m args below meth c H locs cells slots K SL (F0 m pc ls (As.reverse ++ .ref b :: rest)) rest (Qc (Value.ref b :: As).toArray) (zA bs) :=
  va_runIN (As := As) (rest := rest) (Ts := zTB) ⟨C.1, C.2.1, C.2.2.1, C.2.2.2.1, C.2.2.2.2.1⟩ hM (zcwING C hE hw hR) (zpreA hE hA hH hS _) rfl hn hl rfl (lv_room hr) hdg hcl
end ZA
