/-! CALLS: a method's start and end over the world -/
/-- the words of nest mates -/
def zNest : List Cond := [(Jvm.Cond.methodLinkNest "WorkChains$Told" (42 : Nat) ({ cls := "WorkChains$Blocks", name := "<init>", desc := "()V" } : Jvm.MethodName) "WorkChains"), (Jvm.Cond.methodLinkNest "WorkChains$Reader" (20 : Nat) ({ cls := "WorkChains$Blocks", name := "<init>", desc := "()V" } : Jvm.MethodName) "WorkChains"), (Jvm.Cond.methodLinkNest "WorkChains$Chart" (20 : Nat) ({ cls := "WorkChains$Blocks", name := "<init>", desc := "()V" } : Jvm.MethodName) "WorkChains"), (Jvm.Cond.methodLinkNest "WorkChains$Chart" (54 : Nat) ({ cls := "WorkChains$Ledger", name := "<init>", desc := "()V" } : Jvm.MethodName) "WorkChains"), (Jvm.Cond.methodLinkNest "WorkChains$Filling" (33 : Nat) ({ cls := "WorkChains$Ledger", name := "<init>", desc := "()V" } : Jvm.MethodName) "WorkChains"), (Jvm.Cond.methodLinkNest "WorkChains" (65 : Nat) ({ cls := "WorkChains$Ledger", name := "<init>", desc := "()V" } : Jvm.MethodName) "WorkChains"), (Jvm.Cond.methodLinkNest "WorkChains$Chart" (127 : Nat) ({ cls := "WorkChains", name := "isIn", desc := "(II)Z" } : Jvm.MethodName) "WorkChains"), (Jvm.Cond.methodLinkNest "WorkChains$Course" (94 : Nat) ({ cls := "WorkChains", name := "isIn", desc := "(II)Z" } : Jvm.MethodName) "WorkChains"), (Jvm.Cond.fieldLinkNest "WorkChains$Course" (78 : Nat) "WorkChains" "BY_NUMBER" "[I" "WorkChains"), (Jvm.Cond.fieldLinkNest "WorkChains$Chart" (138 : Nat) "WorkChains" "BY_NUMBER" "[I" "WorkChains")]
/-- static rows -/
def zS1 (C nm : String) (k t : Nat) (f : Nat → Int) (bs : Nat) (U : State) (H : Heap) : Prop := va_Z C nm "[I" (.ref t) (zA bs) U H ∧ va_T .int t k (fun j => .int (zI (f j))) (zA bs) U H
theorem zS1.moved {C nm : String} {k t : Nat} {f : Nat → Int} {bs : Nat} {u U : State} {H : Heap} (hvm : u.vm.Alike U.vm) (h : zS1 C nm k t f bs u H) : zS1 C nm k t f bs U H := ⟨va_Z.moved hvm h.1, va_T.moved hvm h.2⟩
theorem zS1.kept {C nm : String} {k t : Nat} {f : Nat → Int} {bs : Nat} {U : State} {H H1 : Heap} (h : zS1 C nm k t f bs U H) (hq : ∀ a : Nat, a < H.size → ¬ zA bs a → H1[a]? = H[a]?) : zS1 C nm k t f bs U H1 := ⟨h.1.kept hq, h.2.kept hq⟩
def nlF : Nat → Int := fun j => ([1, 1, 1, 0, 0, 0, 0] : List Int).getD j 0
def nmF : Nat → Int := fun j => ([9, 99, 99, 1, 1, 99, 99] : List Int).getD j 0
/-- the words of the texts -/
def zKp : List Nat := [176, 177, 179, 181, 183, 185, 187, 189, 191, 193, 195, 197, 199, 201]
def zKt : List String := ["step", "target", "start", "rule", "tie", "reward", "account", "block", "pay", "head", "body", "drop", "tip", ""]
def zKl : List Nat := [4, 6, 5, 4, 3, 6, 7, 5, 3, 4, 4, 4, 3, 0]
def zKb : List (List Int32) := [[115, 116, 101, 112], [116, 97, 114, 103, 101, 116], [115, 116, 97, 114, 116], [114, 117, 108, 101], [116, 105, 101], [114, 101, 119, 97, 114, 100], [97, 99, 99, 111, 117, 110, 116], [98, 108, 111, 99, 107], [112, 97, 121], [104, 101, 97, 100], [98, 111, 100, 121], [100, 114, 111, 112], [116, 105, 112], []]
def zStr (bs : Nat) (sa : Nat → Nat) (U : State) (H : Heap) : Prop := vk_S 14 zKl zKb (fun k => sa (3 + k)) (fun k => sa (3 + 14 + k)) (zA bs) U H ∧ va_Z "java/lang/String" "COMPACT_STRINGS" "Z" (.int 1) (zA bs) U H ∧ va_Zq "jdk/internal/util/Preconditions" "SIOOBE_FORMATTER" "Ljava/util/function/BiFunction;" (zA bs) U H
theorem zStr.moved {bs : Nat} {sa : Nat → Nat} {u U : State} {H : Heap} (hvm : u.vm.Alike U.vm) (h : zStr bs sa u H) : zStr bs sa U H := ⟨vk_S.moved hvm h.1, va_Z.moved hvm h.2.1, va_Zq.moved hvm h.2.2⟩
theorem zStr.kept {bs : Nat} {sa : Nat → Nat} {U : State} {H H1 : Heap} (h : zStr bs sa U H) (hq : ∀ a : Nat, a < H.size → ¬ zA bs a → H1[a]? = H[a]?) : zStr bs sa U H1 := ⟨h.1.kept hq, h.2.1.kept hq, h.2.2.kept hq⟩
def zTx (sa : Nat → Nat) (U : State) : Prop := ∀ k, k < 14 → vk_R "WorkChains$Reader" (zKp.getD k 0) (zKt.getD k "") (sa (3 + k)) U
def zS (bs : Nat) (sa : Nat → Nat) (U : State) (H : Heap) : Prop :=
  zS1 "WorkChains" "BY_NUMBER" 15 (sa 0) (fun j => j) bs U H ∧ zS1 "WorkChains$Reader" "NET_LEAST" 7 (sa 1) nlF bs U H ∧ zS1 "WorkChains$Reader" "NET_MOST" 7 (sa 2) nmF bs U H ∧ zStr bs sa U H
theorem zS.moved {bs : Nat} {sa : Nat → Nat} {u U : State} {H : Heap} (hvm : u.vm.Alike U.vm) (h : zS bs sa u H) : zS bs sa U H := ⟨zS1.moved hvm h.1, zS1.moved hvm h.2.1, zS1.moved hvm h.2.2.1, zStr.moved hvm h.2.2.2⟩
theorem zS.kept {bs : Nat} {sa : Nat → Nat} {U : State} {H H1 : Heap} (h : zS bs sa U H) (hq : ∀ a : Nat, a < H.size → ¬ zA bs a → H1[a]? = H[a]?) : zS bs sa U H1 := ⟨h.1.kept hq, h.2.1.kept hq, h.2.2.1.kept hq, h.2.2.2.kept hq⟩
/-- what a method's start knows of the machine beside the world -/
def zE (D : va_G) (cy : Nat → ClassId) (bs : Nat) (sa : Nat → Nat) (U : State) : Prop := va_K D vwCl (zty cy) U ∧ (∀ w ∈ zNest, va_Nw w U) ∧ zS bs sa U U.heap ∧ zTx sa U
theorem zNest_ok : ∀ w ∈ zNest, (∃ a i b n d h, w = Cond.fieldLinkNest a i b n d h) ∨ ∃ a i x h, w = Cond.methodLinkNest a i x h := by
  unfold zNest
  simp
theorem zNest_warm {s U : State} (hW : s.WarmedH U.vm) (h : ∀ w ∈ zNest, va_Nw w s) : ∀ w ∈ zNest, va_Nw w U := by
  intro w hw
  have h1 := h w hw
  rcases zNest_ok w hw with ⟨a, i, b, n, d, q, rfl⟩ | ⟨a, i, x, q, rfl⟩
  · exact va_Nw.warmF hW h1
  · exact va_Nw.warmM hW h1
theorem zNest_same {u U : State} (hv : u.vm = U.vm) (h : ∀ w ∈ zNest, va_Nw w u) : ∀ w ∈ zNest, va_Nw w U := by
  intro w hw
  have h1 := h w hw
  rcases zNest_ok w hw with ⟨a, i, b, n, d, q, rfl⟩ | ⟨a, i, x, q, rfl⟩
  · exact va_Nw.same rfl hv h1
  · exact va_Nw.same rfl hv h1
theorem zE.same {D : va_G} {cy : Nat → ClassId} {bs : Nat} {sa : Nat → Nat} {u U : State} (hv : u.vm = U.vm) (hh : u.heap = U.heap) (h : zE D cy bs sa u) : zE D cy bs sa U :=
  ⟨va_K.moved (by rw [hv]; exact Vm.Alike.refl U.vm) h.1, zNest_same hv h.2.1, by rw [← hh]; exact zS.moved (by rw [hv]; exact Vm.Alike.refl U.vm) h.2.2.1, fun k hk => vk_R.same hv.symm (h.2.2.2 k hk)⟩
theorem zE.warm {D : va_G} {cy : Nat → ClassId} {bs : Nat} {sa : Nat → Nat} {s U : State} {H0 : Heap} {locs : List Loc} (hW : s.WarmedH U.vm) (hS : va_S (zA bs) s.heap U.heap locs) (h : zE D cy bs sa s) : zE D cy bs sa U :=
  ⟨va_K.moved hW.alike h.1, zNest_warm hW h.2.1, (zS.moved hW.alike h.2.2.1).kept (fun a h1 h2 => hS.2.1 a h1 h2), fun k hk => vk_R.warm hW (h.2.2.2 k hk)⟩
abbrev zSt : Type := (Nat → Int → Int) × (Nat → Int → Int) × (Nat → Int → Option Nat)
def zPc (D : va_G) (cy : Nat → ClassId) (bs : Nat) (sa : Nat → Nat) (N : Nat) (kd len : Nat → Nat) (X Y : Nat → Int → Int) (R : Nat → Int → Option Nat) (av : List Value) : Array Value → State → Prop :=
  va_Pc av (fun U => zH D cy bs N kd len X Y R U.heap ∧ zE D cy bs sa U)
theorem zPc_blind {D : va_G} {cy : Nat → ClassId} {bs : Nat} {sa : Nat → Nat} {N : Nat} {kd len : Nat → Nat} {X Y : Nat → Int → Int} {R : Nat → Int → Option Nat} {av : List Value} : FrameBlind (zPc D cy bs sa N kd len X Y R av) :=
  fun _ U _ _ q => ⟨q.1, q.2.1, zE.same (u := U) rfl rfl q.2.2⟩
def zQi (D : va_G) (cy : Nat → ClassId) (bs N : Nat) (kd len : Nat → Nat) (post : Int → zSt → Prop) : Array Value → State → Outcome → State → Prop :=
  va_Qi (fun r (u : Int × zSt) => r = zI u.1 ∧ rI u.1 ∧ post u.1 u.2) (fun u t => zH D cy bs N kd len u.2.1 u.2.2.1 u.2.2.2 t.heap) (zA bs)
def zQl (D : va_G) (cy : Nat → ClassId) (bs N : Nat) (kd len : Nat → Nat) (post : Int → zSt → Prop) : Array Value → State → Outcome → State → Prop :=
  va_Ql (fun r (u : Int × zSt) => r = zL u.1 ∧ rL u.1 ∧ post u.1 u.2) (fun u t => zH D cy bs N kd len u.2.1 u.2.2.1 u.2.2.2 t.heap) (zA bs)
def zQv (D : va_G) (cy : Nat → ClassId) (bs N : Nat) (kd len : Nat → Nat) (post : zSt → Prop) : Array Value → State → Outcome → State → Prop :=
  va_Qv (fun (u : zSt) => post u) (fun u t => zH D cy bs N kd len u.1 u.2.1 u.2.2 t.heap) (zA bs)
def zQr (D : va_G) (cy : Nat → ClassId) (bs N : Nat) (kd len : Nat → Nat) (post : Option Nat → zSt → Prop) : Array Value → State → Outcome → State → Prop :=
  va_Qq (fun r (u : Option Nat × zSt) => r = u.1.map (bs + ·) ∧ post u.1 u.2) (fun u t => zH D cy bs N kd len u.2.1 u.2.2.1 u.2.2.2 t.heap) (zA bs)
abbrev zRm (fr lo : Nat) : Room := { frames := fr, cells := 0, slots := 0, locals := lo }
/-- the words of a call: virtual, static, of a nest mate -/
def zLv (own : String) (idx : Nat) (C : String) (y : MethodName) (bytes : ByteArray) (maxL : Nat) (ret : Option FieldType) (n : Nat) : Prop :=
  (Cond.methodLink own idx y ∈ zTB ∧ Cond.instanceMethod y ∈ zTB ∧ Cond.selects C y y ∈ zTB ∧ Cond.initialized C ∈ zTB ∧ Cond.code y bytes maxL ret ∈ zTB) ∧ y.cls = C ∧ (y.cls ≠ "java/lang/invoke/MethodHandle" ∧ y.cls ≠ "java/lang/invoke/VarHandle") ∧ (parseMethodDescriptor y.desc).map (fun d => d.parameters.length) = some n
def zLs (own : String) (idx : Nat) (y : MethodName) (bytes : ByteArray) (maxL : Nat) (ret : Option FieldType) (n : Nat) : Prop :=
  (Cond.methodLink own idx y ∈ zTB ∧ Cond.static y ∈ zTB ∧ Cond.initialized y.cls ∈ zTB ∧ Cond.code y bytes maxL ret ∈ zTB) ∧ (y.cls ≠ "java/lang/invoke/MethodHandle" ∧ y.cls ≠ "java/lang/invoke/VarHandle") ∧ (parseMethodDescriptor y.desc).map (fun d => d.parameters.length) = some n
def zLsN (own : String) (idx : Nat) (y : MethodName) (host : String) (bytes : ByteArray) (maxL : Nat) (ret : Option FieldType) (n : Nat) : Prop :=
  (Cond.methodLinkNest own idx y host ∈ zNest ∧ Cond.static y ∈ zTB ∧ Cond.initialized y.cls ∈ zTB ∧ Cond.code y bytes maxL ret ∈ zTB) ∧ (y.cls ≠ "java/lang/invoke/MethodHandle" ∧ y.cls ≠ "java/lang/invoke/VarHandle") ∧ (parseMethodDescriptor y.desc).map (fun d => d.parameters.length) = some n
theorem zGT {ws : List Cond} (h : ∀ w ∈ ws, w ∈ zTB) : GoodIn zTB ws := fun w hw => ⟨h w hw, good_of_word (List.mem_filter.mp (h w hw)).2⟩
theorem zWs {c : Cond} (h : c ∈ zTB) : ∀ w ∈ c :: zTB, w ∈ zTB := fun w hw => by
  rcases List.mem_cons.mp hw with rfl | hw
  · exact h
  · exact hw
section ZCL
variable {p : Program} {l : Launch} {e : Env} {R0 : Room} {s : State} {m : MethodId} {args : Array Value} {below : List Frame} {meth : Method} {c : Code} {H : Heap} {locs : List Loc} {cells slots : Nat} {Q : State → Prop}
variable {cc : ByteArray} {pc nL : Nat} {ls : Array Slot} {rest : List Value} {D : va_G} {cy : Nat → ClassId} {own : String} {bs N : Nat} {sa : Nat → Nat} {kd len : Nat → Nat} {X Y : Nat → Int → Int} {R : Nat → Int → Option Nat}
variable {y : MethodName} {bytes : ByteArray} {maxL idx n fr lo : Nat} {ret : Option FieldType} {CC : String} {As : List Value}
theorem zcwV (C : zC p m c cc nL s args own D cy) (hw : zLv own idx CC y bytes maxL ret n) (hR : fr + 1 ≤ R0.frames ∧ 8 + (maxL + 11) + lo ≤ R0.locals) : CallW R0 s args own CC idx y bytes maxL ret (.code y bytes maxL ret :: zTB) (zRm fr lo) 0 0 n := by
  obtain ⟨⟨w1, w2, w3, w4, w5⟩, h1, h2, h3⟩ := hw
  exact cwV n C.2.2.2.2.1 (zGT (fun w h => by
    rcases List.mem_append.mp h with h | h
    · simp only [List.mem_cons, List.not_mem_nil, or_false] at h
      rcases h with rfl | rfl | rfl | rfl <;> assumption
    · exact zWs w5 w h)) rfl rfl rfl ⟨h1, h2.1, h2.2, h3⟩ hR
theorem zcwS (C : zC p m c cc nL s args own D cy) (hw : zLs own idx y bytes maxL ret n) (hR : fr + 1 ≤ R0.frames ∧ 8 + (maxL + 11) + lo ≤ R0.locals) : CallB R0 s args own idx y bytes maxL ret (.code y bytes maxL ret :: zTB) (zRm fr lo) 0 0 n ∧ (Cond.static y).before args s = true := by
  obtain ⟨⟨w1, w2, w3, w4⟩, h2, h3⟩ := hw
  have ht := C.2.2.2.2.1
  exact ⟨callB_of n ht (zGT (zWs w4)) rfl rfl rfl (ht _ w3) (ht _ w1) ⟨h2.1, h2.2, h3⟩ hR, ht _ w2⟩
theorem zcwSN {host : String} (C : zC p m c cc nL s args own D cy) (hE : zE D cy bs sa s) (hw : zLsN own idx y host bytes maxL ret n) (hR : fr + 1 ≤ R0.frames ∧ 8 + (maxL + 11) + lo ≤ R0.locals) : va_CN R0 s args own idx y host bytes maxL ret (.code y bytes maxL ret :: zTB) (zRm fr lo) 0 0 n ∧ (Cond.static y).before args s = true ∧ True := by
  obtain ⟨⟨w1, w2, w3, w4⟩, h2, h3⟩ := hw
  have ht := C.2.2.2.2.1
  exact ⟨va_cnB n ht (zGT (zWs w4)) rfl rfl rfl (hE.2.1 _ w1) (ht _ w3) ⟨h2.1, h2.2, h3⟩ hR, ht _ w2, trivial⟩
theorem zpre (hE : zE D cy bs sa s) (hH : zH D cy bs N kd len X Y R H) (hS : va_S (zA bs) s.heap H locs) (av : List Value) : PreS s H (zPc D cy bs sa N kd len X Y R av) av :=
  ⟨zPc_blind, fun U hU hW => ⟨rfl, by rw [hU]; exact hH, zE.warm (H0 := s.heap) (locs := locs) hW (by rw [hU]; exact hS) hE⟩⟩
theorem zpreV {i ci : Nat} {T : u_T} {nf : Nat} {fs : List Value} (hE : zE D cy bs sa s) (hH : zH D cy bs N kd len X Y R H) (hS : va_S (zA bs) s.heap H locs) (hi : i < N) (hk : kd i = ci) (he : zc cy bs ci (len i) (X i) (Y i) (R i) = .inr (ci, fs)) (hc : vwCl[ci]? = some (CC, T, nf)) (As : List Value) : PreV s H CC (bs + i) (zPc D cy bs sa N kd len X Y R (.ref (bs + i) :: As)) As :=
  ⟨zPc_blind, va_recv hE.1 (zH_one hH hi (by rw [hk]; exact he)) (q0 := 0) hc rfl, (zpre hE hH hS _).2⟩
/-- what goes on behind a call, by its kind of answer -/
theorem zgoi {post : Int → zSt → Prop} {a : Array Value} {st0 : List Value} (hr : va_Run p l e R0 s m args below meth c H locs cells slots 0 0 (F0 m pc ls st0) rest (zQi D cy bs N kd len post a) (zA bs)) (hS : va_S (zA bs) s.heap H locs)
    (kk : ∀ (r : Int) (X' Y' : Nat → Int → Int) (R' : Nat → Int → Option Nat) (H1 : Heap) (locs1 : List Loc), rI r → post r (X', Y', R') → zH D cy bs N kd len X' Y' R' H1 → va_S (zA bs) s.heap H1 locs1 → W p l e R0 s m args below meth c H1 locs1 cells slots Q (F0 m (pc + 3) ls (.int (zI r) :: rest))) : W p l e R0 s m args below meth c H locs cells slots Q (F0 m pc ls st0) := by
  refine va_calli hr hS (fun q _ h => h) (fun q h => h) (fun r u t H1 locs1 ht _ hw hB _ _ hS1 => ?_)
  obtain ⟨r0, X', Y', R'⟩ := u
  obtain ⟨hw1, hw3, hw2⟩ := hw
  rw [hw1]
  exact kk r0 X' Y' R' H1 locs1 hw3 hw2 (by rw [← ht]; exact hB) hS1
theorem zgol {post : Int → zSt → Prop} {a : Array Value} {st0 : List Value} (hr : va_Run p l e R0 s m args below meth c H locs cells slots 0 0 (F0 m pc ls st0) rest (zQl D cy bs N kd len post a) (zA bs)) (hS : va_S (zA bs) s.heap H locs)
    (kk : ∀ (r : Int) (X' Y' : Nat → Int → Int) (R' : Nat → Int → Option Nat) (H1 : Heap) (locs1 : List Loc), rL r → post r (X', Y', R') → zH D cy bs N kd len X' Y' R' H1 → va_S (zA bs) s.heap H1 locs1 → W p l e R0 s m args below meth c H1 locs1 cells slots Q (F0 m (pc + 3) ls (.long (zL r) :: rest))) : W p l e R0 s m args below meth c H locs cells slots Q (F0 m pc ls st0) := by
  refine va_calll hr hS (fun q _ h => h) (fun q h => h) (fun r u t H1 locs1 ht _ hw hB _ _ hS1 => ?_)
  obtain ⟨r0, X', Y', R'⟩ := u
  obtain ⟨hw1, hw3, hw2⟩ := hw
  rw [hw1]
  exact kk r0 X' Y' R' H1 locs1 hw3 hw2 (by rw [← ht]; exact hB) hS1
theorem zgov {post : zSt → Prop} {a : Array Value} {st0 : List Value} (hr : va_Run p l e R0 s m args below meth c H locs cells slots 0 0 (F0 m pc ls st0) rest (zQv D cy bs N kd len post a) (zA bs)) (hS : va_S (zA bs) s.heap H locs)
    (kk : ∀ (X' Y' : Nat → Int → Int) (R' : Nat → Int → Option Nat) (H1 : Heap) (locs1 : List Loc), post (X', Y', R') → zH D cy bs N kd len X' Y' R' H1 → va_S (zA bs) s.heap H1 locs1 → W p l e R0 s m args below meth c H1 locs1 cells slots Q (F0 m (pc + 3) ls rest)) : W p l e R0 s m args below meth c H locs cells slots Q (F0 m pc ls st0) := by
  refine va_callv hr hS (fun q _ h => h) (fun q h => h) (fun u t H1 locs1 ht _ hw hB _ _ hS1 => ?_)
  obtain ⟨X', Y', R'⟩ := u
  exact kk X' Y' R' H1 locs1 hw (by rw [← ht]; exact hB) hS1
theorem zgor {post : Option Nat → zSt → Prop} {a : Array Value} {st0 : List Value} (hr : va_Run p l e R0 s m args below meth c H locs cells slots 0 0 (F0 m pc ls st0) rest (zQr D cy bs N kd len post a) (zA bs)) (hS : va_S (zA bs) s.heap H locs)
    (kk : ∀ (r : Option Nat) (X' Y' : Nat → Int → Int) (R' : Nat → Int → Option Nat) (H1 : Heap) (locs1 : List Loc), post r (X', Y', R') → zH D cy bs N kd len X' Y' R' H1 → va_S (zA bs) s.heap H1 locs1 → W p l e R0 s m args below meth c H1 locs1 cells slots Q (F0 m (pc + 3) ls (va_rf (r.map (bs + ·)) :: rest))) : W p l e R0 s m args below meth c H locs cells slots Q (F0 m pc ls st0) := by
  refine va_callq hr hS (fun q _ h => h) (fun q h => h) (fun r u t H1 locs1 ht _ hw hB _ _ hS1 => ?_)
  obtain ⟨r0, X', Y', R'⟩ := u
  obtain ⟨hw1, hw2⟩ := hw
  rw [hw1]
  exact kk r0 X' Y' R' H1 locs1 hw2 (by rw [← ht]; exact hB) hS1
/-- the run of a call -/
theorem zrunV {Qc : Array Value → State → Outcome → State → Prop} {i ci : Nat} {T : u_T} {nf : Nat} {fs : List Value} (C : zC p m c cc nL s args own D cy) (hE : zE D cy bs sa s) (hH : zH D cy bs N kd len X Y R H) (hS : va_S (zA bs) s.heap H locs) (hl : ls.size = nL) (hM : Met l y (.code y bytes maxL ret :: zTB) (zRm fr lo) (zPc D cy bs sa N kd len X Y R (.ref (bs + i) :: As)) Qc 0 0 (zA bs)) (hw : zLv own idx CC y bytes maxL ret n) (hR : fr + 1 ≤ R0.frames ∧ 8 + (maxL + 11) + lo ≤ R0.locals)
    (hi : i < N) (hk : kd i = ci) (he : zc cy bs ci (len i) (X i) (Y i) (R i) = .inr (ci, fs)) (hc : vwCl[ci]? = some (CC, T, nf)) (hn : As.length = n) (hr : (rest.map fun v => v.category).sum ≤ 8) (hdg : decode cc pc = .ok (.invokevirtual idx, 3)) (hcl : cells ≤ R0.cells ∧ slots ≤ R0.slots) : va_Run p l e R0 s m args below meth c H locs cells slots 0 0 (F0 m pc ls (As.reverse ++ .ref (bs + i) :: rest)) rest (Qc (Value.ref (bs + i) :: As).toArray) (zA bs) :=
  va_runV (As := As) (rest := rest) (Ts := zTB) ⟨C.1, C.2.1, C.2.2.1, C.2.2.2.1, C.2.2.2.2.1⟩ hM (zcwV C hw hR) (zpreV hE hH hS hi hk he hc As) rfl hn hl rfl (lv_room hr) hdg hcl
theorem zrunS {Qc : Array Value → State → Outcome → State → Prop} (C : zC p m c cc nL s args own D cy) (hE : zE D cy bs sa s) (hH : zH D cy bs N kd len X Y R H) (hS : va_S (zA bs) s.heap H locs) (hl : ls.size = nL) (hM : Met l y (.code y bytes maxL ret :: zTB) (zRm fr lo) (zPc D cy bs sa N kd len X Y R As) Qc 0 0 (zA bs)) (hw : zLs own idx y bytes maxL ret n) (hR : fr + 1 ≤ R0.frames ∧ 8 + (maxL + 11) + lo ≤ R0.locals)
    (hn : As.length = n) (hr : (rest.map fun v => v.category).sum ≤ 8) (hdg : decode cc pc = .ok (.invokestatic idx, 3)) (hcl : cells ≤ R0.cells ∧ slots ≤ R0.slots) : va_Run p l e R0 s m args below meth c H locs cells slots 0 0 (F0 m pc ls (As.reverse ++ rest)) rest (Qc As.toArray) (zA bs) :=
  va_runS (As := As) (rest := rest) (Ts := zTB) ⟨C.1, C.2.1, C.2.2.1, C.2.2.2.1, C.2.2.2.2.1⟩ hM (zcwS C hw hR) (zpre hE hH hS As) rfl hn hl rfl (lv_room hr) hdg hcl
theorem zrunSN {host : String} {Qc : Array Value → State → Outcome → State → Prop} (C : zC p m c cc nL s args own D cy) (hE : zE D cy bs sa s) (hH : zH D cy bs N kd len X Y R H) (hS : va_S (zA bs) s.heap H locs) (hl : ls.size = nL) (hM : Met l y (.code y bytes maxL ret :: zTB) (zRm fr lo) (zPc D cy bs sa N kd len X Y R As) Qc 0 0 (zA bs)) (hw : zLsN own idx y host bytes maxL ret n) (hR : fr + 1 ≤ R0.frames ∧ 8 + (maxL + 11) + lo ≤ R0.locals)
    (hn : As.length = n) (hr : (rest.map fun v => v.category).sum ≤ 8) (hdg : decode cc pc = .ok (.invokestatic idx, 3)) (hcl : cells ≤ R0.cells ∧ slots ≤ R0.slots) : va_Run p l e R0 s m args below meth c H locs cells slots 0 0 (F0 m pc ls (As.reverse ++ rest)) rest (Qc As.toArray) (zA bs) :=
  va_runSN (As := As) (rest := rest) (Ts := zTB) ⟨C.1, C.2.1, C.2.2.1, C.2.2.2.1, C.2.2.2.2.1⟩ hM (zcwSN C hE hw hR) (zpre hE hH hS As) rfl hn hl rfl (lv_room hr) hdg hcl
end ZCL
/-- a method's walk begins -/
theorem zstart {l : Launch} {y : MethodName} {bytes : ByteArray} {maxL fr lo : Nat} {ret : Option FieldType} {D : va_G} {cy : Nat → ClassId} {bs N : Nat} {sa : Nat → Nat} {kd len : Nat → Nat} {X Y : Nat → Int → Int} {R : Nat → Int → Option Nat} {av : List Value} {Qc : Array Value → State → Outcome → State → Prop} (hy : plainName y.cls = true) (hlen : (lg_sl av).length ≤ maxL)
    (body : ∀ (p : Program) (e : Env) (s : State) (m : MethodId) (args : Array Value) (below : List Frame) (meth : Method) (c : Code) (ls : Array Slot), zC p m c bytes maxL s args y.cls D cy → zE D cy bs sa s → zH D cy bs N kd len X Y R s.heap → meth.sig.returnType = ret → meth.locks = false → meth.name = y.name → lv_has ls maxL (lv_args 0 av) → args = av.toArray →
      W p l e (zRm fr lo) s m args below meth c s.heap [] 0 0 (MQ below Qc args s 0 0 (zA bs)) (F0 m 0 ls [])) : Met l y (.code y bytes maxL ret :: zTB) (zRm fr lo) (zPc D cy bs sa N kd len X Y R av) Qc 0 0 (zA bs) := by
  refine Met.ofW (cc := bytes) (maxL := maxL) (ret := ret) hy rfl ?_
  intro p e s m args below meth c s₁ B hml hv
  obtain ⟨rfl, hH, hE⟩ := hv
  have hts := atoms_spec B.pre
  rw [lg_entry_eq]
  exact body p e s m _ below meth c _ ⟨B.exec, B.bytes, hml, findClass_of_methodNamed B.named, fun w hw => hts w (List.mem_cons_of_mem _ hw), hE.1⟩ hE hH B.returns B.notSynchronized (name_of_methodNamed B.named B.method).1 (lv_entry av hlen) rfl
