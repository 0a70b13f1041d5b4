/-! THE LAW'S WALK -/
theorem z0WC_mv {X X1 : Nat → Int → Int} (e : ∀ z, z < 262 → X1 z = X z) (h : z0WC X 0) : z0WC X1 0 := by
  obtain ⟨h1, h2, h3, h4, h5⟩ := h
  exact ⟨z0Td_mv (fun z _ _ => e z (by omega)) h1, fun z hz => z0Td_mv (fun y _ _ => e y (by omega)) (h2 z hz), fun y => by rw [e (0 + 138) (by decide)]; exact h3 y, z0Rd_mv (fun z _ _ => e z (by omega)) h4, by
    unfold chI at h5 ⊢
    rw [e (0 + 157 + 9) (by decide), e (0 + 157 + 11) (by decide)]
    exact h5⟩
theorem eWC_mv {R R1 : Nat → Int → Option Nat} (e : ∀ z, z < 262 → R1 z = R z) (h : eWC R 0) : eWC R1 0 := by
  obtain ⟨⟨h0, ht⟩, ⟨h1, h2⟩, hi, ⟨h3, hr⟩, ⟨h4, hc⟩, ⟨h5, c0, c3⟩, ⟨h6, hw⟩, ⟨h7, hf⟩, h8, hs⟩ := h
  have e0 := e 0 (by decide)
  refine ⟨⟨by rw [e0]; exact h0, eTd_mv (fun z _ _ => e z (by omega)) ht⟩, ⟨by rw [e0]; exact h1, by rw [e0]; exact h2⟩, fun z hz => ⟨by rw [e (0 + 35) (by decide)]; exact (hi z hz).1, eTd_mv (fun y _ _ => e y (by omega)) (hi z hz).2⟩, ⟨by rw [e0]; exact h3, eRd_mv (fun z _ _ => e z (by omega)) hr⟩, ⟨by rw [e0]; exact h4, eCh_mv (fun z _ _ => e z (by omega)) hc⟩, ⟨by rw [e0]; exact h5, by rw [e (0 + 204) (by decide)]; exact c0, by rw [e (0 + 204) (by decide)]; exact c3⟩, ⟨by rw [e0]; exact h6, eLw_mv (fun z _ _ => e z (by omega)) hw⟩, ⟨by rw [e0]; exact h7, eFi_mv (fun z _ _ => e z (by omega)) hf⟩, by rw [e0]; exact h8, eLd_mv (e _ (by decide)) hs⟩
/-- kinds and lengths of the cells that the law makes -/
def kdL (n : Nat) : Nat := if n < 288 then ((tWC ++ tModel).getD n (0, 0)).1 else 14
def leL (n : Nat) : Nat := if n < 288 then ((tWC ++ tModel).getD n (0, 0)).2 else 20
theorem kTL_a : ∀ o, o < 262 → kdL (0 + o) = (tWC.getD o (0, 0)).1 ∧ leL (0 + o) = (tWC.getD o (0, 0)).2 := by decide +kernel
theorem kTL_0 : kT kdL leL 0 tWC := fun o ho => kTL_a o (by rw [tWC_len] at ho; exact ho)
theorem kTL_1 : kT kdL leL 262 tModel := (by decide +kernel : ∀ o, o < 26 → kdL (262 + o) = (tModel.getD o (0, 0)).1 ∧ leL (262 + o) = (tModel.getD o (0, 0)).2)
theorem kTL_g : ∀ n, 288 ≤ n → kdL n = 14 ∧ leL n = 20 := fun n h => ⟨if_neg (by omega), if_neg (by omega)⟩
theorem q_148 : Cond.classLink R_law 7 RX10 ∈ zTB := zmem 148 (by decide +kernel) rfl
theorem q_149 : Cond.instantiable RX10 9 ∈ zTB := zmem 149 (by decide +kernel) rfl
theorem q_1281 : Cond.classLink R_law 10 RX11 ∈ zTB := zmem 1281 (by decide +kernel) rfl
theorem q_1282 : Cond.instantiable RX11 66 ∈ zTB := zmem 1282 (by decide +kernel) rfl
theorem q_151 : Cond.instanceMethod yX10_init ∈ zTB := zmem 151 (by decide +kernel) rfl
theorem q_152 : Cond.code yX10_init cX10_init 2 none ∈ zTB := zmem 152 (by decide +kernel) rfl
theorem q_150 : Cond.methodLink R_law 9 yX10_init ∈ zTB := zmem 150 (by decide +kernel) rfl
theorem k_R_law_9 : zLi R_law 9 yX10_init cX10_init 2 0 := ⟨⟨q_150, q_151, q_129, q_152⟩, rfl, ⟨by decide, by decide⟩, by decide +kernel⟩
theorem q_1284 : Cond.instanceMethod yX11_init ∈ zTB := zmem 1284 (by decide +kernel) rfl
theorem q_1285 : Cond.code yX11_init cX11_init 1 none ∈ zTB := zmem 1285 (by decide +kernel) rfl
theorem q_1283 : Cond.methodLink R_law 12 yX11_init ∈ zTB := zmem 1283 (by decide +kernel) rfl
theorem k_R_law_12 : zLi R_law 12 yX11_init cX11_init 1 0 := ⟨⟨q_1283, q_1284, q_140, q_1285⟩, rfl, ⟨by decide, by decide⟩, by decide +kernel⟩
theorem dW_0 : decode code 0 = .ok (.new 7, 3) := by decide +kernel
theorem dW_3 : decode code 3 = .ok (.dup, 1) := by decide +kernel
theorem dW_4 : decode code 4 = .ok (.invokespecial 9, 3) := by decide +kernel
theorem dW_7 : decode code 7 = .ok (.astore_n 1, 1) := by decide +kernel
theorem dW_8 : decode code 8 = .ok (.new 10, 3) := by decide +kernel
theorem dW_11 : decode code 11 = .ok (.dup, 1) := by decide +kernel
theorem dW_12 : decode code 12 = .ok (.invokespecial 12, 3) := by decide +kernel
theorem dW_15 : decode code 15 = .ok (.astore_n 2, 1) := by decide +kernel
theorem dW_16 : decode code 16 = .ok (.iconst 0, 1) := by decide +kernel
theorem dW_17 : decode code 17 = .ok (.istore_n 3, 1) := by decide +kernel
theorem dW_18 : decode code 18 = .ok (.iload_n 3, 1) := by decide +kernel
theorem dW_19 : decode code 19 = .ok (.aload_n 0, 1) := by decide +kernel
theorem dW_20 : decode code 20 = .ok (.arraylength, 1) := by decide +kernel
theorem dW_21 : decode code 21 = .ok (.bipush 7, 2) := by decide +kernel
theorem dW_23 : decode code 23 = .ok (.isub, 1) := by decide +kernel
theorem dW_24 : decode code 24 = .ok (.if_icmp .gt 1697, 3) := by decide +kernel
theorem dW_27 : decode code 27 = .ok (.aload_n 0, 1) := by decide +kernel
theorem dW_28 : decode code 28 = .ok (.iload_n 3, 1) := by decide +kernel
theorem dW_29 : decode code 29 = .ok (.iaload, 1) := by decide +kernel
theorem dW_30 : decode code 30 = .ok (.bipush 31, 2) := by decide +kernel
theorem dW_32 : decode code 32 = .ok (.iand, 1) := by decide +kernel
theorem dW_33 : decode code 33 = .ok (.tableswitch 1682 0 31 #[143, 206, 229, 262, 285, 318, 361, 404, 447, 510, 564, 607, 650, 713, 792, 845, 899, 942, 1012, 1045, 1088, 1151, 1214, 1257, 1310, 1363, 1406, 1469, 1522, 1613, 1636, 1659], 143) := by decide +kernel
theorem dW_1715 : decode code 1715 = .ok (.iinc 3 7, 3) := by decide +kernel
theorem dW_1718 : decode code 1718 = .ok (.goto (-1700), 3) := by decide +kernel
theorem dW_1721 : decode code 1721 = .ok (.iconst 1, 1) := by decide +kernel
theorem dW_1722 : decode code 1722 = .ok (.ireturn, 1) := by decide +kernel
def lw_P (b : Addr) (xs : List Int32) (args : Array Value) (s : State) : Prop := args = #[.ref b] ∧ s.IntsAt b xs ∧ xs.length ≤ 3584 ∧ (Jvm.Cond.and given_1 narrow_1).before args s = true
def lw_Q (_ : Array Value) (s : State) (o : Outcome) (t : State) : Prop := o = .returned (some (.int 1)) ∧ Framed s o t [] 600000 7302249
def lw_Z (below : List Frame) (a : Array Value) (s : State) : State → Prop := fun t => ∃ o, t.status = .running ∧ Ended t below o ∧ lw_Q a s o t
/-- the law's own end, with 1 on the stack, nothing written that was there before, its room as the claim has it -/
theorem lw_ret {p : Program} {l : Launch} {e : Env} {s : State} {m : MethodId} {below : List Frame} {meth : Method} {c : Code} {b : Nat} (hx : p.tables.exec = Jvm.exec) (hb : c.code = code) (hr : meth.sig.returnType = ret) (hlocks : meth.locks = false) {pc : Nat} {H : Heap} {ls : Array Slot} (hdg : decode code pc = .ok (.ireturn, 1)) : W p l e room_1 s m #[Value.ref b] below meth c H [] 600000 7302249 (lw_Z below #[Value.ref b] s) (F0 m pc ls [.int 1]) := by
  intro T hT X
  obtain ⟨fs, hret, hrun, hended, hW, hframe⟩ := X.leave (v := some (.int 1)) (hlocks := hlocks) (fun h => by rw [hr] at h; cases h)
  have hmeth' : T.vm.method? m = some meth := X.method'
  refine ⟨T.setFrames fs, ?_, .returned (some (.int 1)), hrun, hended, rfl, ⟨_, rfl⟩, hW, hframe⟩
  jvm_step X.here [X.here.top, hx, hb, hdg, hmeth', hr, ret, narrow_b1]
  (try refine ⟨rfl, ?_⟩); (try refine ⟨rfl, ?_⟩)
  first | (intro acts; rw [hret _ acts rfl rfl rfl]) | rw [hret _ _ rfl rfl rfl]
  exact Steps.refl _
/-- what holds at the law's entry: the machine, the code, the tables' words (any of lw_tbl by 'hts w (by decide +kernel)'), the script of L ints xs at the cell b, what the Statement gives of the start (any of its parts by flat_of_before) -/
def lw_At (p : Program) (s : State) (m : MethodId) (meth : Method) (c : Code) (b L : Nat) (xs : Nat → Int32) : Prop :=
  p.tables.exec = Jvm.exec ∧ c.code = code ∧ meth.sig.returnType = ret ∧ c.maxLocals = 4 ∧ s.vm.findClass R_law = some m.cls ∧ (∀ w ∈ lw_tbl, w.before #[Value.ref b] s = true) ∧ va_X b L xs s s.heap ∧ b < s.heap.size ∧ meth.locks = false ∧ (Jvm.Cond.and given_1 narrow_1).before #[Value.ref b] s = true
set_option maxHeartbeats 4000000 in
theorem lw_loop {p : Program} {l : Launch} {e : Env} {s : State} {m : MethodId} {below : List Frame} {meth : Method} {c : Code} {D : va_G} {cy : Nat → ClassId} {sa : Nat → Nat} {kd len : Nat → Nat} {b L : Nat} {xs : Nat → Int32} (C : zC p m c code 4 s #[Value.ref b] R_law D cy) (hE : zE D cy s.heap.size sa s) (hX : va_X b L xs s s.heap) (hb : b < s.heap.size) (hL : L ≤ 3584) (hret : meth.sig.returnType = ret) (hlk : meth.locks = false) (hG : ∀ n, 288 ≤ n → kd n = 14 ∧ len n = 20) : ∀ (fu t i N cells slots : Nat) (X Y : Nat → Int → Int) (R : Nat → Int → Option Nat) (H : Heap) (locs : List Loc) (ls : Array Slot), i = 7 * t → i ≤ L → L < i + fu → cells ≤ 288 + t → slots ≤ 20000 + 20 * t → 288 ≤ N → LI X → KW kd len R → zH D cy s.heap.size N kd len X Y R H → va_S (zA s.heap.size) s.heap H locs → lv_has ls 4 [(3, .int (zI (i : Int))), (2, .ref (s.heap.size + 262)), (1, .ref (s.heap.size + 0)), (0, .ref b)] → W p l e room_1 s m #[Value.ref b] below meth c H locs cells slots (lw_Z below #[Value.ref b] s) (F0 m 18 ls []) := by
  intro fu
  induction fu with
  | zero =>
    intro t i N cells slots X Y R H locs ls _ h1 h2
    omega
  | succ fu ih =>
    intro t i N cells slots X Y R H locs ls hit hiL hfu hc hs hN I hK hH hS hl
    refine lv_iload_n C.1 C.2.1 dW_18 rfl (lv_at hl 0 rfl) ?_
    refine lv_aload_n C.1 C.2.1 dW_19 rfl (lv_at hl 3 rfl) ?_
    refine va_slen C.1 C.2.1 hX hb (fun q => absurd q (Nat.not_le.mpr hb)) hS dW_20 ?_
    rw [show Int32.ofNat L = zI (L : Int) from Int32.ofInt_eq_ofNat.symm]
    refine zd_bipush C (by decide) dW_21 ?_
    refine zd_isub C dW_23 ?_
    refine zd_icmp_gt C (a := (i : Int)) (b := (L : Int) - 7) ⟨by omega, by omega⟩ ⟨by omega, by omega⟩ 1721 dW_24 (by decide) (fun q => ?_) (fun q => ?_)
    · refine lv_iconst (v := 1) C.1 C.2.1 dW_1721 rfl ?_
      refine va_forget (fun q hq => hS.2.2 q hq) ?_
      refine W.widen (k := 600000) (n := 7302249) (by omega) (by omega) ?_
      exact lw_ret C.1 C.2.1 hret hlk dW_1722
    · refine lv_aload_n C.1 C.2.1 dW_27 rfl (lv_at hl 3 rfl) ?_
      refine lv_iload_n C.1 C.2.1 dW_28 rfl (lv_at hl 0 rfl) ?_
      refine lw_ix hX hb hS C (j := i) (by omega) hL dW_29 ?_
      refine zd_bipush C (by decide) dW_30 ?_
      refine zd_iand C dW_32 ?_
      have hz := and_31 (sv xs i)
      have hi7 : i + 7 ≤ L := by omega
      have hcs : cells + 1 ≤ 600000 ∧ slots + 20 ≤ 7302249 := by omega
      have kk : ∀ (N1 : Nat) (X1 Y1 : Nat → Int → Int) (R1 : Nat → Int → Option Nat) (H1 : Heap) (locs1 : List Loc), 288 ≤ N1 → LI X1 → KW kd len R1 → zH D cy s.heap.size N1 kd len X1 Y1 R1 H1 → va_S (zA s.heap.size) s.heap H1 locs1 → W p l e room_1 s m #[Value.ref b] below meth c H1 locs1 (cells + 1) (slots + 20) (lw_Z below #[Value.ref b] s) (F0 m 1715 ls []) := fun N1 X1 Y1 R1 H1 locs1 hN1 I1 K1 hH1 hS1 => by
        refine zd_iinc C hl (k := 0) rfl dW_1715 (by decide) rfl (fun ls1 hl1 => ?_)
        refine lv_goto (tgt := 18) C.1 C.2.1 dW_1718 (by decide) ?_
        refine ih (t + 1) (i + 7) N1 (cells + 1) (slots + 20) X1 Y1 R1 H1 locs1 ls1 (by omega) (by omega) (by omega) (by omega) (by omega) hN1 I1 K1 hH1 hS1 ?_
        rw [show ((i + 7 : Nat) : Int) = (i : Int) + 7 by omega]
        exact hl1
      have q32 : zAnd (sv xs i) 31 = 0 ∨ zAnd (sv xs i) 31 = 1 ∨ zAnd (sv xs i) 31 = 2 ∨ zAnd (sv xs i) 31 = 3 ∨ zAnd (sv xs i) 31 = 4 ∨ zAnd (sv xs i) 31 = 5 ∨ zAnd (sv xs i) 31 = 6 ∨ zAnd (sv xs i) 31 = 7 ∨ zAnd (sv xs i) 31 = 8 ∨ zAnd (sv xs i) 31 = 9 ∨ zAnd (sv xs i) 31 = 10 ∨ zAnd (sv xs i) 31 = 11 ∨ zAnd (sv xs i) 31 = 12 ∨ zAnd (sv xs i) 31 = 13 ∨ zAnd (sv xs i) 31 = 14 ∨ zAnd (sv xs i) 31 = 15 ∨ zAnd (sv xs i) 31 = 16 ∨ zAnd (sv xs i) 31 = 17 ∨ zAnd (sv xs i) 31 = 18 ∨ zAnd (sv xs i) 31 = 19 ∨ zAnd (sv xs i) 31 = 20 ∨ zAnd (sv xs i) 31 = 21 ∨ zAnd (sv xs i) 31 = 22 ∨ zAnd (sv xs i) 31 = 23 ∨ zAnd (sv xs i) 31 = 24 ∨ zAnd (sv xs i) 31 = 25 ∨ zAnd (sv xs i) 31 = 26 ∨ zAnd (sv xs i) 31 = 27 ∨ zAnd (sv xs i) 31 = 28 ∨ zAnd (sv xs i) 31 = 29 ∨ zAnd (sv xs i) 31 = 30 ∨ zAnd (sv xs i) 31 = 31 := by omega
      rcases q32 with k | k | k | k | k | k | k | k | k | k | k | k | k | k | k | k | k | k | k | k | k | k | k | k | k | k | k | k | k | k | k | k
      · exact zd_tabI C (zI_rg _) 176 0 k dW_33 (by decide) (by decide) rfl (by decide) (lc_0 C hE hX hb hL hi7 hcs hN hG I hK hH hS hl kk)
      · exact zd_tabI C (zI_rg _) 239 1 k dW_33 (by decide) (by decide) rfl (by decide) (lc_1 C hE hX hb hL hi7 hcs hN hG I hK hH hS hl kk)
      · exact zd_tabI C (zI_rg _) 262 2 k dW_33 (by decide) (by decide) rfl (by decide) (lc_2 C hE hX hb hL hi7 hcs hN hG I hK hH hS hl kk)
      · exact zd_tabI C (zI_rg _) 295 3 k dW_33 (by decide) (by decide) rfl (by decide) (lc_3 C hE hX hb hL hi7 hcs hN hG I hK hH hS hl kk)
      · exact zd_tabI C (zI_rg _) 318 4 k dW_33 (by decide) (by decide) rfl (by decide) (lc_4 C hE hX hb hL hi7 hcs hN hG I hK hH hS hl kk)
      · exact zd_tabI C (zI_rg _) 351 5 k dW_33 (by decide) (by decide) rfl (by decide) (lc_5 C hE hX hb hL hi7 hcs hN hG I hK hH hS hl kk)
      · exact zd_tabI C (zI_rg _) 394 6 k dW_33 (by decide) (by decide) rfl (by decide) (lc_6 C hE hX hb hL hi7 hcs hN hG I hK hH hS hl kk)
      · exact zd_tabI C (zI_rg _) 437 7 k dW_33 (by decide) (by decide) rfl (by decide) (lc_7 C hE hX hb hL hi7 hcs hN hG I hK hH hS hl kk)
      · exact zd_tabI C (zI_rg _) 480 8 k dW_33 (by decide) (by decide) rfl (by decide) (lc_8 C hE hX hb hL hi7 hcs hN hG I hK hH hS hl kk)
      · exact zd_tabI C (zI_rg _) 543 9 k dW_33 (by decide) (by decide) rfl (by decide) (lc_9 C hE hX hb hL hi7 hcs hN hG I hK hH hS hl kk)
      · exact zd_tabI C (zI_rg _) 597 10 k dW_33 (by decide) (by decide) rfl (by decide) (lc_10 C hE hX hb hL hi7 hcs hN hG I hK hH hS hl kk)
      · exact zd_tabI C (zI_rg _) 640 11 k dW_33 (by decide) (by decide) rfl (by decide) (lc_11 C hE hX hb hL hi7 hcs hN hG I hK hH hS hl kk)
      · exact zd_tabI C (zI_rg _) 683 12 k dW_33 (by decide) (by decide) rfl (by decide) (lc_12 C hE hX hb hL hi7 hcs hN hG I hK hH hS hl kk)
      · exact zd_tabI C (zI_rg _) 746 13 k dW_33 (by decide) (by decide) rfl (by decide) (lc_13 C hE hX hb hL hi7 hcs hN hG I hK hH hS hl kk)
      · exact zd_tabI C (zI_rg _) 825 14 k dW_33 (by decide) (by decide) rfl (by decide) (lc_14 C hE hX hb hL hi7 hcs hN hG I hK hH hS hl kk)
      · exact zd_tabI C (zI_rg _) 878 15 k dW_33 (by decide) (by decide) rfl (by decide) (lc_15 C hE hX hb hL hi7 hcs hN hG I hK hH hS hl kk)
      · exact zd_tabI C (zI_rg _) 932 16 k dW_33 (by decide) (by decide) rfl (by decide) (lc_16 C hE hX hb hL hi7 hcs hN hG I hK hH hS hl kk)
      · exact zd_tabI C (zI_rg _) 975 17 k dW_33 (by decide) (by decide) rfl (by decide) (lc_17 C hE hX hb hL hi7 hcs hN hG I hK hH hS hl kk)
      · exact zd_tabI C (zI_rg _) 1045 18 k dW_33 (by decide) (by decide) rfl (by decide) (lc_18 C hE hX hb hL hi7 hcs hN hG I hK hH hS hl kk)
      · exact zd_tabI C (zI_rg _) 1078 19 k dW_33 (by decide) (by decide) rfl (by decide) (lc_19 C hE hX hb hL hi7 hcs hN hG I hK hH hS hl kk)
      · exact zd_tabI C (zI_rg _) 1121 20 k dW_33 (by decide) (by decide) rfl (by decide) (lc_20 C hE hX hb hL hi7 hcs hN hG I hK hH hS hl kk)
      · exact zd_tabI C (zI_rg _) 1184 21 k dW_33 (by decide) (by decide) rfl (by decide) (lc_21 C hE hX hb hL hi7 hcs hN hG I hK hH hS hl kk)
      · exact zd_tabI C (zI_rg _) 1247 22 k dW_33 (by decide) (by decide) rfl (by decide) (lc_22 C hE hX hb hL hi7 hcs hN hG I hK hH hS hl kk)
      · exact zd_tabI C (zI_rg _) 1290 23 k dW_33 (by decide) (by decide) rfl (by decide) (lc_23 C hE hX hb hL hi7 hcs hN hG I hK hH hS hl kk)
      · exact zd_tabI C (zI_rg _) 1343 24 k dW_33 (by decide) (by decide) rfl (by decide) (lc_24 C hE hX hb hL hi7 hcs hN hG I hK hH hS hl kk)
      · exact zd_tabI C (zI_rg _) 1396 25 k dW_33 (by decide) (by decide) rfl (by decide) (lc_25 C hE hX hb hL hi7 hcs hN hG I hK hH hS hl kk)
      · exact zd_tabI C (zI_rg _) 1439 26 k dW_33 (by decide) (by decide) rfl (by decide) (lc_26 C hE hX hb hL hi7 hcs hN hG I hK hH hS hl kk)
      · exact zd_tabI C (zI_rg _) 1502 27 k dW_33 (by decide) (by decide) rfl (by decide) (lc_27 C hE hX hb hL hi7 hcs hN hG I hK hH hS hl kk)
      · exact zd_tabI C (zI_rg _) 1555 28 k dW_33 (by decide) (by decide) rfl (by decide) (lc_28 C hE hX hb hL hi7 hcs hN hG I hK hH hS hl kk)
      · exact zd_tabI C (zI_rg _) 1646 29 k dW_33 (by decide) (by decide) rfl (by decide) (lc_29 C hE hX hb hL hi7 hcs hN hG I hK hH hS hl kk)
      · exact zd_tabI C (zI_rg _) 1669 30 k dW_33 (by decide) (by decide) rfl (by decide) (lc_30 C hE hX hb hL hi7 hcs hN hG I hK hH hS hl kk)
      · exact zd_tabI C (zI_rg _) 1692 31 k dW_33 (by decide) (by decide) rfl (by decide) (lc_31 C hE hX hb hL hi7 hcs hN hG I hK hH hS hl kk)
theorem whole_start {p : Program} {e : Env} {s : State} {m : MethodId} {below : List Frame} {meth : Method} {c : Code} (l : Launch) (hflags : l.flags = flags0) {b L : Nat} {xs : Nat → Int32} (hL : L ≤ 3584) (C0 : lw_At p s m meth c b L xs) : W p l e room_1 s m #[Value.ref b] below meth c s.heap [] 0 0 (lw_Z below #[Value.ref b] s) (entryFrame m ([Value.ref b] : List Value).toArray 4) := by
  obtain ⟨hx, hbd, hret, hml, hown, hts, hX, hbl, hlk, hgv⟩ := C0
  obtain ⟨D, cy, sa, hE, hA⟩ := zStart hts hgv
  have C : zC p m c code 4 s #[Value.ref b] R_law D cy := ⟨hx, hbd, hml, hown, zTB_hts hts, hE.1⟩
  rw [lg_entry_eq]
  have hl := lv_entry [Value.ref b] (n := 4) (Nat.le_of_ble_eq_true rfl)
  generalize ((lg_sl [Value.ref b] ++ List.replicate (4 - (lg_sl [Value.ref b]).length) Slot.unset).toArray) = ls at hl ⊢
  have hl : lv_has ls 4 [(0, .ref b)] := hl
  have hH : zH D cy s.heap.size 0 kdL leL (fun _ _ => 0) (fun _ _ => 0) (fun _ _ => none) s.heap := ⟨rfl, fun i hi => absurd hi (Nat.not_lt_zero _), fun _ _ => (by decide : rI 0), fun _ _ => (by decide : rL 0)⟩
  have hS : va_S (zA s.heap.size) s.heap s.heap [] := va_S.rf
  refine zd_newO C hH hS (ci := 10) rfl zin10 tyX10 tyX10_ok q_148 q_149 q_129 (by decide +kernel) rfl zO10 (Nat.le_of_ble_eq_true rfl) (Nat.le_of_ble_eq_true rfl) dW_0 (fun H hH hS => ?_)
  refine lv_dup C.1 C.2.1 dW_3 rfl ?_
  refine zgovG (zrunIG (As := []) (rest := [.ref (s.heap.size + 0)]) C hE hA hH hS hl.1 (c_X10_init (l := l) (i := 0) kTL_0 zZ_s) k_R_law_9 ⟨Nat.le_of_ble_eq_true rfl, Nat.le_of_ble_eq_true rfl⟩ rfl (Nat.le_of_ble_eq_true rfl) dW_4 ⟨Nat.le_of_ble_eq_true rfl, Nat.le_of_ble_eq_true rfl⟩) hS (fun X1 Y1 R1 H locs hq hH hS => ?_)
  obtain ⟨-, -, e1, z1⟩ := hq
  have e1 : eWC R1 0 := e1
  have z1 : z0WC X1 0 := z1
  have hH : zH D cy s.heap.size 262 kdL leL X1 Y1 R1 H := hH
  refine lv_astore_n (lv' := [(1, .ref (s.heap.size + 0)), (0, .ref b)]) C.1 C.2.1 dW_7 rfl hl (by decide) rfl (fun ls hl => ?_)
  refine zd_newO C hH hS (ci := 11) rfl zin11 tyX11 tyX11_ok q_1281 q_1282 q_140 (by decide +kernel) rfl zO11 (Nat.le_of_ble_eq_true rfl) (Nat.le_of_ble_eq_true rfl) dW_8 (fun H hH hS => ?_)
  refine lv_dup C.1 C.2.1 dW_11 rfl ?_
  refine zgovG (zrunIG (As := []) (rest := [.ref (s.heap.size + 262)]) C hE hA hH hS hl.1 (c_X11_init (l := l) (i := 262) kTL_1 zZ_s) k_R_law_12 ⟨Nat.le_of_ble_eq_true rfl, Nat.le_of_ble_eq_true rfl⟩ rfl (Nat.le_of_ble_eq_true rfl) dW_12 ⟨Nat.le_of_ble_eq_true rfl, Nat.le_of_ble_eq_true rfl⟩) hS (fun X2 Y2 R2 H locs hq hH hS => ?_)
  obtain ⟨f2, g2, e2, z2⟩ := hq
  have f2 : ∀ z, z < 262 → X2 z = X1 z := fun z hz => (f2 z (Or.inl hz)).trans (zZ_o (by omega))
  have g2 : ∀ z, z < 262 → R2 z = R1 z := fun z hz => (g2 z (Or.inl hz)).trans (zZ_o (by omega))
  have e2 : eM R2 262 := e2
  have z2 : z0M X2 262 := z2
  have hH : zH D cy s.heap.size 288 kdL leL X2 Y2 R2 H := hH
  refine lv_astore_n (lv' := [(2, .ref (s.heap.size + 262)), (1, .ref (s.heap.size + 0)), (0, .ref b)]) C.1 C.2.1 dW_15 rfl hl (by decide) rfl (fun ls hl => ?_)
  refine zd_iconst C dW_16 ?_
  refine lv_istore_n (lv' := [(3, .int (zI 0)), (2, .ref (s.heap.size + 262)), (1, .ref (s.heap.size + 0)), (0, .ref b)]) C.1 C.2.1 dW_17 rfl hl (by decide) rfl (fun ls hl => ?_)
  have eW := eWC_mv g2 e1
  exact lw_loop C hE hX hbl hL hret hlk kTL_g (L + 1) 0 0 288 _ _ X2 Y2 R2 H locs ls rfl (Nat.zero_le _) (by omega) (Nat.le_of_ble_eq_true rfl) (Nat.le_of_ble_eq_true rfl) (Nat.le_refl _) (LI_0 (z0WC_mv f2 z1) z2) ⟨fun N hN => zWC_0 kTL_0 (by omega) eW, fun N hN => zM_of kTL_1 (by omega) e2⟩ hH hS hl
set_option maxHeartbeats 4000000 in
theorem lw_walk (l : Launch) (hflags : l.flags = flags0) (b : Addr) (xs : List Int32) : MetFree l x (headSpec (Jvm.Cond.code x code maxLocals ret :: tables_1) room_1) (lw_P b xs) (fun _ _ _ _ _ => True) lw_Q := by
  refine MetFree.of_bodyS (code := code) (maxLocals := maxLocals) (ret := ret) (by decide) ?_ ?_
  · intro args s m h hn
    obtain ⟨meth, c, h1, h2, h3, h4, h5, h6, -, -⟩ := Cond.code_spec hn (atoms_spec (ws := Jvm.Cond.code x code maxLocals ret :: tables_1) h _ List.mem_cons_self)
    exact ⟨meth, c, h1, h2, h3, h4, h5, h6⟩
  · intro p e s m args below meth c s₁ B hml0 hP _
    obtain ⟨rfl, hx, hbd, hgv⟩ := hP
    obtain ⟨scr, harrAt, hlist, hof, hsmall⟩ := hx
    obtain ⟨hcb, hkn, -, -⟩ := State.arrayAt?_spec harrAt
    have hown : s.vm.findClass R_law = some m.cls := findClass_of_methodNamed B.named
    have hts0 : ∀ c ∈ (Jvm.Cond.code x code maxLocals ret :: tables_1), c.before #[Value.ref b] s = true := atoms_spec (ws := Jvm.Cond.code x code maxLocals ret :: tables_1) B.pre
    have hts : ∀ w ∈ lw_tbl, w.before #[Value.ref b] s = true := k2_hts_sels lw_privs (fun w hw => hts0 w (List.mem_cons_of_mem _ hw)) lw_privs_ok
    have hml : c.maxLocals = 4 := B.maxLocals_eq (hts0 _ List.mem_cons_self)
    have X₀ : Stand p l e room_1 s m #[Value.ref b] below meth c s₁ [] 0 0 := Stand.of_body B
    have hh0 : s₁.heap = s.heap := by rw [B.state]; rfl
    have hsz : scr.slots.size = xs.length := by rw [← Array.length_toList, hlist, List.length_map]
    have hval : ∀ j : Nat, j < xs.length → scr.slots[j]? = some (.int (xs.getD j 0)) := fun j hj => by
      rw [← Array.getElem?_toList, hlist]
      simp [hj]
    have hbl : b < s.heap.size := (Array.getElem?_eq_some_iff.mp hcb).1
    have hX : va_X b xs.length (fun j => xs.getD j 0) s s.heap := ⟨scr, hcb, hof, hkn, hsz, hval⟩
    have K : W p l e room_1 s m #[Value.ref b] below meth c s₁.heap [] 0 0 (lw_Z below #[Value.ref b] s) (entryFrame m ([Value.ref b] : List Value).toArray 4) := by
      rw [hh0]
      exact whole_start l hflags hbd ⟨B.exec, B.bytes, B.returns, hml, hown, hts, hX, hbl, B.notSynchronized, hgv⟩
    obtain ⟨t, a1, o, b1, b2, b3⟩ := K s₁ rfl X₀
    exact ⟨t, o, a1, b1, b2, b3⟩
theorem lw_pre_spec {args : Array Value} {s : State} (h : (Jvm.Cond.and given_1 narrow_1).before args s = true) (hr : rest_1_c.before args s = true) : ∃ (b : Addr) (xs : List Int32), lw_P b xs args s := by
  have hs := flat_of_before _ h
  have hq := flat_of_before _ hr
  have hc : (Cond.count 1).before args s = true := hs _ (by decide +kernel)
  have harr : (Cond.arrayOf (.arg 0) .int).before args s = true := hs _ (by decide +kernel)
  have hle : (Cond.le (.length (.arg 0)) (.int 3584)).before args s = true := hs _ (by decide +kernel)
  have hlen : (Cond.isInt (.length (.arg 0))).before args s = true := hq _ (by decide +kernel)
  have hall : (Cond.all (.arg 0) (.isInt (.elem (.arg 0) (.index 0)))).before args s = true := hq _ (by decide +kernel)
  obtain ⟨b, xs, hb, hx⟩ := State.ints_of_pre rfl harr hlen hall
  have hsm : xs.length < 2 ^ 31 := hx.choose_spec.2.2.2
  have hev : (Term.length (.arg 0)).eval args s none [] s = some (.int xs.length.toInt32) := hx.length_eval hb
  have hv := Cond.le_ints hev (show (Term.int 3584).eval args s none [] s = some (.int 3584) from rfl)
  have hd : xs.length.toInt32 ≤ 3584 := by
    simpa [Cond.before, Cond.holds, hv] using hle
  have hN : xs.length ≤ 3584 := (Int32.ofNat_le_ofNat hsm (by decide)).mp (show Int32.ofNat xs.length ≤ Int32.ofNat 3584 from hd)
  exact ⟨b, xs, Cond.one_arg hc (show args[0]? = some (.ref b) from hb), hx, hN, h⟩
theorem lw_comes (l : Launch) (hflags : l.flags = flags0) : Comes l x (Jvm.Cond.code x code maxLocals ret :: tables_1) room_1 (fun tb e args s => Calls_1 tb e args s ∧ rest_1 tb e args s ∧ Pre_1 tb e args s)
    (fun _ _ args s o t => lw_Q args s o t) := by
  intro p e ha hc hk s m args below hf hfit hheap happ hpre
  obtain ⟨b, xs, hP⟩ := lw_pre_spec hpre.2.2 hpre.2.1
  obtain ⟨k, o, h1, h2, h3, hQ⟩ := lw_walk l hflags b xs p e ha hc hk s m args below hf ((Spec.applies_iff_loose hf).mp happ).1 hP trivial
  exact ⟨k, o, h1, h2, h3, hQ⟩
theorem lw_frame {s t : State} {o : Outcome} {args : Array Value} (h : Framed s o t [] 600000 7302249) :
    Framed s o t (fieldLocs frame_1_writes args s ++ arrayLocs frame_1_arrays args s ++ staticLocs frame_1_statics s) 600000 7302249 := h
theorem lw_limb (L : Cond) (hL : ∀ (args : Array Value) (s t : State), L.after args s (.returned (some (.int 1))) t = true) :
    ArmFor flags0 classFile x code maxLocals ret World_1 tables_1 room_1 Calls_1 rest_1 Pre_1
      (fun tb e a s o t => postC L tb e a s o t ∧ Framed s o t (fieldLocs frame_1_writes a s ++ arrayLocs frame_1_arrays a s ++ staticLocs frame_1_statics s) 600000 7302249) := by
  intro l hflags _ _ p e ha hc hk s m args below hf hfit hheap happ hpre
  obtain ⟨k, o, h1, h2, h3, rfl, hF⟩ := lw_comes l hflags p e ha hc hk s m args below hf hfit hheap happ hpre
  exact ⟨k, _, h1, h2, h3, hL args s _, lw_frame hF⟩
theorem i_vc : Claimed_1_1 ∧ Claimed_1_2 := ⟨lw_limb limb_1_1 (fun args s t => by simp [limb_1_1, Cond.after, Cond.holds, Cond.value]), lw_limb limb_1_2 (fun args s t => Cond.after_iff.mpr (by
  first | (rw [show limb_1_2 = Cond.eq .result (.int 1) from rfl, Cond.eq_ints (x := 1) (y := 1) rfl rfl]; simp; done) | (simp [limb_1_2, Cond.value, Term.eval]; done)))⟩
