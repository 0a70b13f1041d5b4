/-! THE START: what the Statement gives -/
theorem arrP {s : State} {args : Array Value} {ty : FieldType} (hn : ∀ C, ty ≠ .object C) (h : (Cond.arrayClass ty).before args s = true) : ∃ c : ClassId, ArrOfT s c ty ∧ va_RA s c ty := by
  obtain ⟨c, k, comp, h1, h2, h3⟩ := Cond.arrayClass_spec h
  refine ⟨c, fun n z => ⟨fun k h => (by cases h), k, h2, comp, h3⟩, ?_⟩
  cases ty with
  | object C => exact absurd rfl (hn C)
  | _ => exact h1
theorem arrO {s : State} {args : Array Value} {C : String} (h : (Cond.arrayOver (.object C)).before args s = true) : ∃ c : ClassId, ArrOfT s c (.object C) ∧ va_RA s c (.object C) := by
  obtain ⟨comp, c, k, h1, -, h3, h4, h5⟩ := Cond.arrayOver_spec h
  exact ⟨c, fun n z => ⟨fun k h => (by cases h), k, h3, comp, h4⟩, k, comp, h3, h4, h1, h5⟩
theorem arrA {s : State} {args : Array Value} (h : (Cond.arrayOver (.array .int)).before args s = true) : ∃ c : ClassId, ArrOfT s c (.array .int) ∧ va_RA s c (.array .int) := by
  obtain ⟨comp, c, k, h1, -, h3, h4, h5⟩ := arrayOverA_spec h
  exact ⟨c, fun n z => ⟨fun k h => (by cases h), k, h3, comp, h4⟩, h5⟩
set_option maxHeartbeats 4000000 in
theorem zStart {s : State} {b : Nat} (hts : ∀ w ∈ lw_tbl, w.before #[Value.ref b] s = true) (hgv : (Jvm.Cond.and given_1 narrow_1).before #[Value.ref b] s = true) : ∃ (D : va_G) (cy : Nat → ClassId) (sa : Nat → Nat), zE D cy s.heap.size sa s ∧ zAQ s := by
  have hs := flat_of_before _ hgv
  have hz := zTB_hts hts
  have hA : ∀ a : Nat, a < s.heap.size → ¬ zA s.heap.size a := fun a h q => absurd q (Nat.not_le.mpr h)
  obtain ⟨k0, i0, hk0⟩ := u_known (C := RX0) (T := TX0) (N := 6) (n := 6) hz zin0 (hts _ (List.mem_of_getElem? (i := 219) (by decide +kernel)))
  obtain ⟨k1, i1, hk1⟩ := u_known (C := RX1) (T := TX1) (N := 12) (n := 12) hz zin1 (hts _ (List.mem_of_getElem? (i := 366) (by decide +kernel)))
  obtain ⟨k2, i2, hk2⟩ := u_known (C := RX2) (T := TX2) (N := 15) (n := 15) hz zin2 (hts _ (List.mem_of_getElem? (i := 443) (by decide +kernel)))
  obtain ⟨k3, i3, hk3⟩ := u_known (C := RX3) (T := TX3) (N := 6) (n := 6) hz zin3 (hts _ (List.mem_of_getElem? (i := 536) (by decide +kernel)))
  obtain ⟨k4, i4, hk4⟩ := u_known (C := RX4) (T := TX4) (N := 6) (n := 6) hz zin4 (hts _ (List.mem_of_getElem? (i := 507) (by decide +kernel)))
  obtain ⟨k5, i5, hk5⟩ := u_known (C := RX5) (T := TX5) (N := 2) (n := 2) hz zin5 (hts _ (List.mem_of_getElem? (i := 377) (by decide +kernel)))
  obtain ⟨k6, i6, hk6⟩ := u_known (C := RX6) (T := TX6) (N := 8) (n := 8) hz zin6 (hts _ (List.mem_of_getElem? (i := 168) (by decide +kernel)))
  obtain ⟨k7, i7, hk7⟩ := u_known (C := RX7) (T := TX7) (N := 12) (n := 12) hz zin7 (hts _ (List.mem_of_getElem? (i := 311) (by decide +kernel)))
  obtain ⟨k8, i8, hk8⟩ := u_known (C := RX8) (T := TX8) (N := 4) (n := 4) hz zin8 (hts _ (List.mem_of_getElem? (i := 254) (by decide +kernel)))
  obtain ⟨k9, i9, hk9⟩ := u_known (C := RX9) (T := TX9) (N := 8) (n := 8) hz zin9 (hts _ (List.mem_of_getElem? (i := 157) (by decide +kernel)))
  obtain ⟨k10, i10, hk10⟩ := u_known (C := RX10) (T := TX10) (N := 9) (n := 9) hz zin10 (hts _ (List.mem_of_getElem? (i := 149) (by decide +kernel)))
  obtain ⟨k11, i11, hk11⟩ := u_known (C := RX11) (T := TX11) (N := 66) (n := 66) hz zin11 (hts _ (List.mem_of_getElem? (i := 1282) (by decide +kernel)))
  obtain ⟨a0, ha0⟩ := arrP (ty := .byte) (fun C h => (by cases h)) (hts _ (List.mem_of_getElem? (i := 217) (by decide +kernel)))
  obtain ⟨a1, ha1⟩ := arrP (ty := .int) (fun C h => (by cases h)) (hts _ (List.mem_of_getElem? (i := 218) (by decide +kernel)))
  obtain ⟨a2, ha2⟩ := arrP (ty := .long) (fun C h => (by cases h)) (hts _ (List.mem_of_getElem? (i := 391) (by decide +kernel)))
  obtain ⟨a3, ha3⟩ := arrP (ty := .boolean) (fun C h => (by cases h)) (hts _ (List.mem_of_getElem? (i := 364) (by decide +kernel)))
  have o4 : (Cond.arrayOver (.object RX0)).before #[Value.ref b] s = true := (hts _ (List.mem_of_getElem? (i := 165) (by decide +kernel)))
  obtain ⟨a4, ha4⟩ := arrO o4
  have o5 : (Cond.arrayOver (.object RX5)).before #[Value.ref b] s = true := (hts _ (List.mem_of_getElem? (i := 376) (by decide +kernel)))
  obtain ⟨a5, ha5⟩ := arrO o5
  have o6 : (Cond.arrayOver (.object RX6)).before #[Value.ref b] s = true := (hts _ (List.mem_of_getElem? (i := 163) (by decide +kernel)))
  obtain ⟨a6, ha6⟩ := arrO o6
  have o7 : (Cond.arrayOver (.object RX8)).before #[Value.ref b] s = true := (hts _ (List.mem_of_getElem? (i := 167) (by decide +kernel)))
  obtain ⟨a7, ha7⟩ := arrO o7
  have o8 : (Cond.arrayOver (.object RX9)).before #[Value.ref b] s = true := (hts _ (List.mem_of_getElem? (i := 309) (by decide +kernel)))
  obtain ⟨a8, ha8⟩ := arrO o8
  have o9 : (Cond.arrayOver (.array .int)).before #[Value.ref b] s = true := (hts _ (List.mem_of_getElem? (i := 513) (by decide +kernel)))
  obtain ⟨a9, ha9⟩ := arrA o9
  obtain ⟨tb, eb, hTb⟩ := va_Tof (N := 15) (f := fun j => .int (zI ((fun j => (j : Int)) j))) (A := zA s.heap.size) (tm := .static "WorkChains" "BY_NUMBER" "[I") (by decide) (hs _ (List.mem_of_getElem? fl_30)) (va_eqt (hs _ (List.mem_of_getElem? fl_31))) (fun j hj => match j, hj with
      | 0, _ => (va_eqt (hs _ (List.mem_of_getElem? fl_32))).trans (congrArg some (by decide +kernel : Value.int 0 = Value.int (zI ((fun j => (j : Int)) 0))))
      | 1, _ => (va_eqt (hs _ (List.mem_of_getElem? fl_33))).trans (congrArg some (by decide +kernel : Value.int 1 = Value.int (zI ((fun j => (j : Int)) 1))))
      | 2, _ => (va_eqt (hs _ (List.mem_of_getElem? fl_34))).trans (congrArg some (by decide +kernel : Value.int 2 = Value.int (zI ((fun j => (j : Int)) 2))))
      | 3, _ => (va_eqt (hs _ (List.mem_of_getElem? fl_35))).trans (congrArg some (by decide +kernel : Value.int 3 = Value.int (zI ((fun j => (j : Int)) 3))))
      | 4, _ => (va_eqt (hs _ (List.mem_of_getElem? fl_36))).trans (congrArg some (by decide +kernel : Value.int 4 = Value.int (zI ((fun j => (j : Int)) 4))))
      | 5, _ => (va_eqt (hs _ (List.mem_of_getElem? fl_37))).trans (congrArg some (by decide +kernel : Value.int 5 = Value.int (zI ((fun j => (j : Int)) 5))))
      | 6, _ => (va_eqt (hs _ (List.mem_of_getElem? fl_38))).trans (congrArg some (by decide +kernel : Value.int 6 = Value.int (zI ((fun j => (j : Int)) 6))))
      | 7, _ => (va_eqt (hs _ (List.mem_of_getElem? fl_39))).trans (congrArg some (by decide +kernel : Value.int 7 = Value.int (zI ((fun j => (j : Int)) 7))))
      | 8, _ => (va_eqt (hs _ (List.mem_of_getElem? fl_40))).trans (congrArg some (by decide +kernel : Value.int 8 = Value.int (zI ((fun j => (j : Int)) 8))))
      | 9, _ => (va_eqt (hs _ (List.mem_of_getElem? fl_41))).trans (congrArg some (by decide +kernel : Value.int 9 = Value.int (zI ((fun j => (j : Int)) 9))))
      | 10, _ => (va_eqt (hs _ (List.mem_of_getElem? fl_42))).trans (congrArg some (by decide +kernel : Value.int 10 = Value.int (zI ((fun j => (j : Int)) 10))))
      | 11, _ => (va_eqt (hs _ (List.mem_of_getElem? fl_43))).trans (congrArg some (by decide +kernel : Value.int 11 = Value.int (zI ((fun j => (j : Int)) 11))))
      | 12, _ => (va_eqt (hs _ (List.mem_of_getElem? fl_44))).trans (congrArg some (by decide +kernel : Value.int 12 = Value.int (zI ((fun j => (j : Int)) 12))))
      | 13, _ => (va_eqt (hs _ (List.mem_of_getElem? fl_45))).trans (congrArg some (by decide +kernel : Value.int 13 = Value.int (zI ((fun j => (j : Int)) 13))))
      | 14, _ => (va_eqt (hs _ (List.mem_of_getElem? fl_46))).trans (congrArg some (by decide +kernel : Value.int 14 = Value.int (zI ((fun j => (j : Int)) 14))))
      | k9 + 15, h9 => absurd (show k9 + 15 < 15 from h9) (by omega)) hA
  have zb : zS1 "WorkChains" "BY_NUMBER" 15 tb (fun j => (j : Int)) s.heap.size s s.heap := ⟨va_Zof (hts _ (List.mem_of_getElem? (i := 979) (by decide +kernel))) (hts _ (List.mem_of_getElem? (i := 129) (by decide +kernel))) eb hA, hTb⟩
  obtain ⟨tc, ec, hTc⟩ := va_Tof (N := 7) (f := fun j => .int (zI (nlF j))) (A := zA s.heap.size) (tm := .static "WorkChains$Reader" "NET_LEAST" "[I") (by decide) (hs _ (List.mem_of_getElem? fl_10)) (va_eqt (hs _ (List.mem_of_getElem? fl_11))) (fun j hj => match j, hj with
      | 0, _ => (va_eqt (hs _ (List.mem_of_getElem? fl_12))).trans (congrArg some (by decide +kernel : Value.int 1 = Value.int (zI (nlF 0))))
      | 1, _ => (va_eqt (hs _ (List.mem_of_getElem? fl_13))).trans (congrArg some (by decide +kernel : Value.int 1 = Value.int (zI (nlF 1))))
      | 2, _ => (va_eqt (hs _ (List.mem_of_getElem? fl_14))).trans (congrArg some (by decide +kernel : Value.int 1 = Value.int (zI (nlF 2))))
      | 3, _ => (va_eqt (hs _ (List.mem_of_getElem? fl_15))).trans (congrArg some (by decide +kernel : Value.int 0 = Value.int (zI (nlF 3))))
      | 4, _ => (va_eqt (hs _ (List.mem_of_getElem? fl_16))).trans (congrArg some (by decide +kernel : Value.int 0 = Value.int (zI (nlF 4))))
      | 5, _ => (va_eqt (hs _ (List.mem_of_getElem? fl_17))).trans (congrArg some (by decide +kernel : Value.int 0 = Value.int (zI (nlF 5))))
      | 6, _ => (va_eqt (hs _ (List.mem_of_getElem? fl_18))).trans (congrArg some (by decide +kernel : Value.int 0 = Value.int (zI (nlF 6))))
      | k9 + 7, h9 => absurd (show k9 + 7 < 7 from h9) (by omega)) hA
  have zc : zS1 "WorkChains$Reader" "NET_LEAST" 7 tc nlF s.heap.size s s.heap := ⟨va_Zof (hts _ (List.mem_of_getElem? (i := 743) (by decide +kernel))) (hts _ (List.mem_of_getElem? (i := 134) (by decide +kernel))) ec hA, hTc⟩
  obtain ⟨td, ed, hTd⟩ := va_Tof (N := 7) (f := fun j => .int (zI (nmF j))) (A := zA s.heap.size) (tm := .static "WorkChains$Reader" "NET_MOST" "[I") (by decide) (hs _ (List.mem_of_getElem? fl_20)) (va_eqt (hs _ (List.mem_of_getElem? fl_21))) (fun j hj => match j, hj with
      | 0, _ => (va_eqt (hs _ (List.mem_of_getElem? fl_22))).trans (congrArg some (by decide +kernel : Value.int 9 = Value.int (zI (nmF 0))))
      | 1, _ => (va_eqt (hs _ (List.mem_of_getElem? fl_23))).trans (congrArg some (by decide +kernel : Value.int 99 = Value.int (zI (nmF 1))))
      | 2, _ => (va_eqt (hs _ (List.mem_of_getElem? fl_24))).trans (congrArg some (by decide +kernel : Value.int 99 = Value.int (zI (nmF 2))))
      | 3, _ => (va_eqt (hs _ (List.mem_of_getElem? fl_25))).trans (congrArg some (by decide +kernel : Value.int 1 = Value.int (zI (nmF 3))))
      | 4, _ => (va_eqt (hs _ (List.mem_of_getElem? fl_26))).trans (congrArg some (by decide +kernel : Value.int 1 = Value.int (zI (nmF 4))))
      | 5, _ => (va_eqt (hs _ (List.mem_of_getElem? fl_27))).trans (congrArg some (by decide +kernel : Value.int 99 = Value.int (zI (nmF 5))))
      | 6, _ => (va_eqt (hs _ (List.mem_of_getElem? fl_28))).trans (congrArg some (by decide +kernel : Value.int 99 = Value.int (zI (nmF 6))))
      | k9 + 7, h9 => absurd (show k9 + 7 < 7 from h9) (by omega)) hA
  have zd : zS1 "WorkChains$Reader" "NET_MOST" 7 td nmF s.heap.size s s.heap := ⟨va_Zof (hts _ (List.mem_of_getElem? (i := 745) (by decide +kernel))) (hts _ (List.mem_of_getElem? (i := 134) (by decide +kernel))) ed hA, hTd⟩
  obtain ⟨adK, adV, hStr, hEv⟩ := vk_Sof (args := #[Value.ref b]) (s := s) (N := 14) (tm := fun k => .string "WorkChains$Reader" (zKp.getD k 0)) (len := zKl) (byt := zKb) (A := zA s.heap.size) (by decide)
    (fun i hi => match i, hi with
      | 0, _ => hs _ (List.mem_of_getElem? fl_107)
      | 1, _ => hs _ (List.mem_of_getElem? fl_115)
      | 2, _ => hs _ (List.mem_of_getElem? fl_126)
      | 3, _ => hs _ (List.mem_of_getElem? fl_137)
      | 4, _ => hs _ (List.mem_of_getElem? fl_148)
      | 5, _ => hs _ (List.mem_of_getElem? fl_159)
      | 6, _ => hs _ (List.mem_of_getElem? fl_174)
      | 7, _ => hs _ (List.mem_of_getElem? fl_191)
      | 8, _ => hs _ (List.mem_of_getElem? fl_207)
      | 9, _ => hs _ (List.mem_of_getElem? fl_222)
      | 10, _ => hs _ (List.mem_of_getElem? fl_239)
      | 11, _ => hs _ (List.mem_of_getElem? fl_257)
      | 12, _ => hs _ (List.mem_of_getElem? fl_276)
      | 13, _ => hs _ (List.mem_of_getElem? fl_295)
      | k9 + 14, h9 => absurd (show k9 + 14 < 14 from h9) (by omega))
    (fun i hi => match i, hi with
      | 0, _ => hs _ (List.mem_of_getElem? fl_108)
      | 1, _ => hs _ (List.mem_of_getElem? fl_116)
      | 2, _ => hs _ (List.mem_of_getElem? fl_127)
      | 3, _ => hs _ (List.mem_of_getElem? fl_138)
      | 4, _ => hs _ (List.mem_of_getElem? fl_149)
      | 5, _ => hs _ (List.mem_of_getElem? fl_160)
      | 6, _ => hs _ (List.mem_of_getElem? fl_175)
      | 7, _ => hs _ (List.mem_of_getElem? fl_192)
      | 8, _ => hs _ (List.mem_of_getElem? fl_208)
      | 9, _ => hs _ (List.mem_of_getElem? fl_223)
      | 10, _ => hs _ (List.mem_of_getElem? fl_240)
      | 11, _ => hs _ (List.mem_of_getElem? fl_258)
      | 12, _ => hs _ (List.mem_of_getElem? fl_277)
      | 13, _ => hs _ (List.mem_of_getElem? fl_296)
      | k9 + 14, h9 => absurd (show k9 + 14 < 14 from h9) (by omega))
    (fun i hi => match i, hi with
      | 0, _ => hs _ (List.mem_of_getElem? fl_109)
      | 1, _ => hs _ (List.mem_of_getElem? fl_117)
      | 2, _ => hs _ (List.mem_of_getElem? fl_128)
      | 3, _ => hs _ (List.mem_of_getElem? fl_139)
      | 4, _ => hs _ (List.mem_of_getElem? fl_150)
      | 5, _ => hs _ (List.mem_of_getElem? fl_161)
      | 6, _ => hs _ (List.mem_of_getElem? fl_176)
      | 7, _ => hs _ (List.mem_of_getElem? fl_193)
      | 8, _ => hs _ (List.mem_of_getElem? fl_209)
      | 9, _ => hs _ (List.mem_of_getElem? fl_224)
      | 10, _ => hs _ (List.mem_of_getElem? fl_241)
      | 11, _ => hs _ (List.mem_of_getElem? fl_259)
      | 12, _ => hs _ (List.mem_of_getElem? fl_278)
      | 13, _ => hs _ (List.mem_of_getElem? fl_297)
      | k9 + 14, h9 => absurd (show k9 + 14 < 14 from h9) (by omega))
    (fun i hi => match i, hi with
      | 0, _ => hs _ (List.mem_of_getElem? fl_110)
      | 1, _ => hs _ (List.mem_of_getElem? fl_118)
      | 2, _ => hs _ (List.mem_of_getElem? fl_129)
      | 3, _ => hs _ (List.mem_of_getElem? fl_140)
      | 4, _ => hs _ (List.mem_of_getElem? fl_151)
      | 5, _ => hs _ (List.mem_of_getElem? fl_162)
      | 6, _ => hs _ (List.mem_of_getElem? fl_177)
      | 7, _ => hs _ (List.mem_of_getElem? fl_194)
      | 8, _ => hs _ (List.mem_of_getElem? fl_210)
      | 9, _ => hs _ (List.mem_of_getElem? fl_225)
      | 10, _ => hs _ (List.mem_of_getElem? fl_242)
      | 11, _ => hs _ (List.mem_of_getElem? fl_260)
      | 12, _ => hs _ (List.mem_of_getElem? fl_279)
      | 13, _ => hs _ (List.mem_of_getElem? fl_298)
      | k9 + 14, h9 => absurd (show k9 + 14 < 14 from h9) (by omega))
    (fun i hi => match i, hi with
      | 0, _ => (fun j hj => match j, hj with
          | 0, _ => hs _ (List.mem_of_getElem? fl_111)
          | 1, _ => hs _ (List.mem_of_getElem? fl_112)
          | 2, _ => hs _ (List.mem_of_getElem? fl_113)
          | 3, _ => hs _ (List.mem_of_getElem? fl_114)
          | k9 + 4, h9 => absurd (show k9 + 4 < 4 from h9) (by omega))
      | 1, _ => (fun j hj => match j, hj with
          | 0, _ => hs _ (List.mem_of_getElem? fl_119)
          | 1, _ => hs _ (List.mem_of_getElem? fl_120)
          | 2, _ => hs _ (List.mem_of_getElem? fl_121)
          | 3, _ => hs _ (List.mem_of_getElem? fl_122)
          | 4, _ => hs _ (List.mem_of_getElem? fl_123)
          | 5, _ => hs _ (List.mem_of_getElem? fl_124)
          | k9 + 6, h9 => absurd (show k9 + 6 < 6 from h9) (by omega))
      | 2, _ => (fun j hj => match j, hj with
          | 0, _ => hs _ (List.mem_of_getElem? fl_130)
          | 1, _ => hs _ (List.mem_of_getElem? fl_131)
          | 2, _ => hs _ (List.mem_of_getElem? fl_132)
          | 3, _ => hs _ (List.mem_of_getElem? fl_133)
          | 4, _ => hs _ (List.mem_of_getElem? fl_134)
          | k9 + 5, h9 => absurd (show k9 + 5 < 5 from h9) (by omega))
      | 3, _ => (fun j hj => match j, hj with
          | 0, _ => hs _ (List.mem_of_getElem? fl_141)
          | 1, _ => hs _ (List.mem_of_getElem? fl_142)
          | 2, _ => hs _ (List.mem_of_getElem? fl_143)
          | 3, _ => hs _ (List.mem_of_getElem? fl_144)
          | k9 + 4, h9 => absurd (show k9 + 4 < 4 from h9) (by omega))
      | 4, _ => (fun j hj => match j, hj with
          | 0, _ => hs _ (List.mem_of_getElem? fl_152)
          | 1, _ => hs _ (List.mem_of_getElem? fl_153)
          | 2, _ => hs _ (List.mem_of_getElem? fl_154)
          | k9 + 3, h9 => absurd (show k9 + 3 < 3 from h9) (by omega))
      | 5, _ => (fun j hj => match j, hj with
          | 0, _ => hs _ (List.mem_of_getElem? fl_163)
          | 1, _ => hs _ (List.mem_of_getElem? fl_164)
          | 2, _ => hs _ (List.mem_of_getElem? fl_165)
          | 3, _ => hs _ (List.mem_of_getElem? fl_166)
          | 4, _ => hs _ (List.mem_of_getElem? fl_167)
          | 5, _ => hs _ (List.mem_of_getElem? fl_168)
          | k9 + 6, h9 => absurd (show k9 + 6 < 6 from h9) (by omega))
      | 6, _ => (fun j hj => match j, hj with
          | 0, _ => hs _ (List.mem_of_getElem? fl_178)
          | 1, _ => hs _ (List.mem_of_getElem? fl_179)
          | 2, _ => hs _ (List.mem_of_getElem? fl_180)
          | 3, _ => hs _ (List.mem_of_getElem? fl_181)
          | 4, _ => hs _ (List.mem_of_getElem? fl_182)
          | 5, _ => hs _ (List.mem_of_getElem? fl_183)
          | 6, _ => hs _ (List.mem_of_getElem? fl_184)
          | k9 + 7, h9 => absurd (show k9 + 7 < 7 from h9) (by omega))
      | 7, _ => (fun j hj => match j, hj with
          | 0, _ => hs _ (List.mem_of_getElem? fl_195)
          | 1, _ => hs _ (List.mem_of_getElem? fl_196)
          | 2, _ => hs _ (List.mem_of_getElem? fl_197)
          | 3, _ => hs _ (List.mem_of_getElem? fl_198)
          | 4, _ => hs _ (List.mem_of_getElem? fl_199)
          | k9 + 5, h9 => absurd (show k9 + 5 < 5 from h9) (by omega))
      | 8, _ => (fun j hj => match j, hj with
          | 0, _ => hs _ (List.mem_of_getElem? fl_211)
          | 1, _ => hs _ (List.mem_of_getElem? fl_212)
          | 2, _ => hs _ (List.mem_of_getElem? fl_213)
          | k9 + 3, h9 => absurd (show k9 + 3 < 3 from h9) (by omega))
      | 9, _ => (fun j hj => match j, hj with
          | 0, _ => hs _ (List.mem_of_getElem? fl_226)
          | 1, _ => hs _ (List.mem_of_getElem? fl_227)
          | 2, _ => hs _ (List.mem_of_getElem? fl_228)
          | 3, _ => hs _ (List.mem_of_getElem? fl_229)
          | k9 + 4, h9 => absurd (show k9 + 4 < 4 from h9) (by omega))
      | 10, _ => (fun j hj => match j, hj with
          | 0, _ => hs _ (List.mem_of_getElem? fl_243)
          | 1, _ => hs _ (List.mem_of_getElem? fl_244)
          | 2, _ => hs _ (List.mem_of_getElem? fl_245)
          | 3, _ => hs _ (List.mem_of_getElem? fl_246)
          | k9 + 4, h9 => absurd (show k9 + 4 < 4 from h9) (by omega))
      | 11, _ => (fun j hj => match j, hj with
          | 0, _ => hs _ (List.mem_of_getElem? fl_261)
          | 1, _ => hs _ (List.mem_of_getElem? fl_262)
          | 2, _ => hs _ (List.mem_of_getElem? fl_263)
          | 3, _ => hs _ (List.mem_of_getElem? fl_264)
          | k9 + 4, h9 => absurd (show k9 + 4 < 4 from h9) (by omega))
      | 12, _ => (fun j hj => match j, hj with
          | 0, _ => hs _ (List.mem_of_getElem? fl_280)
          | 1, _ => hs _ (List.mem_of_getElem? fl_281)
          | 2, _ => hs _ (List.mem_of_getElem? fl_282)
          | k9 + 3, h9 => absurd (show k9 + 3 < 3 from h9) (by omega))
      | 13, _ => (fun j hj => match j, hj with
          | k9 + 0, h9 => absurd (show k9 + 0 < 0 from h9) (by omega))
      | k9 + 14, h9 => absurd (show k9 + 14 < 14 from h9) (by omega))
    (fun i j hi hj hij => match i, hi with
      | 0, _ => match j, hj, hij with
          | 0, _, hij => absurd rfl hij
          | 1, _, hij => Or.inl (hs _ (List.mem_of_getElem? fl_125))
          | 2, _, hij => Or.inl (hs _ (List.mem_of_getElem? fl_135))
          | 3, _, hij => Or.inl (hs _ (List.mem_of_getElem? fl_145))
          | 4, _, hij => Or.inl (hs _ (List.mem_of_getElem? fl_155))
          | 5, _, hij => Or.inl (hs _ (List.mem_of_getElem? fl_169))
          | 6, _, hij => Or.inl (hs _ (List.mem_of_getElem? fl_185))
          | 7, _, hij => Or.inl (hs _ (List.mem_of_getElem? fl_200))
          | 8, _, hij => Or.inl (hs _ (List.mem_of_getElem? fl_214))
          | 9, _, hij => Or.inl (hs _ (List.mem_of_getElem? fl_230))
          | 10, _, hij => Or.inl (hs _ (List.mem_of_getElem? fl_247))
          | 11, _, hij => Or.inl (hs _ (List.mem_of_getElem? fl_265))
          | 12, _, hij => Or.inl (hs _ (List.mem_of_getElem? fl_283))
          | 13, _, hij => Or.inl (hs _ (List.mem_of_getElem? fl_299))
          | k8 + 14, h8, _ => absurd h8 (by omega)
      | 1, _ => match j, hj, hij with
          | 0, _, hij => Or.inr (hs _ (List.mem_of_getElem? fl_125))
          | 1, _, hij => absurd rfl hij
          | 2, _, hij => Or.inl (hs _ (List.mem_of_getElem? fl_136))
          | 3, _, hij => Or.inl (hs _ (List.mem_of_getElem? fl_146))
          | 4, _, hij => Or.inl (hs _ (List.mem_of_getElem? fl_156))
          | 5, _, hij => Or.inl (hs _ (List.mem_of_getElem? fl_170))
          | 6, _, hij => Or.inl (hs _ (List.mem_of_getElem? fl_186))
          | 7, _, hij => Or.inl (hs _ (List.mem_of_getElem? fl_201))
          | 8, _, hij => Or.inl (hs _ (List.mem_of_getElem? fl_215))
          | 9, _, hij => Or.inl (hs _ (List.mem_of_getElem? fl_231))
          | 10, _, hij => Or.inl (hs _ (List.mem_of_getElem? fl_248))
          | 11, _, hij => Or.inl (hs _ (List.mem_of_getElem? fl_266))
          | 12, _, hij => Or.inl (hs _ (List.mem_of_getElem? fl_284))
          | 13, _, hij => Or.inl (hs _ (List.mem_of_getElem? fl_300))
          | k8 + 14, h8, _ => absurd h8 (by omega)
      | 2, _ => match j, hj, hij with
          | 0, _, hij => Or.inr (hs _ (List.mem_of_getElem? fl_135))
          | 1, _, hij => Or.inr (hs _ (List.mem_of_getElem? fl_136))
          | 2, _, hij => absurd rfl hij
          | 3, _, hij => Or.inl (hs _ (List.mem_of_getElem? fl_147))
          | 4, _, hij => Or.inl (hs _ (List.mem_of_getElem? fl_157))
          | 5, _, hij => Or.inl (hs _ (List.mem_of_getElem? fl_171))
          | 6, _, hij => Or.inl (hs _ (List.mem_of_getElem? fl_187))
          | 7, _, hij => Or.inl (hs _ (List.mem_of_getElem? fl_202))
          | 8, _, hij => Or.inl (hs _ (List.mem_of_getElem? fl_216))
          | 9, _, hij => Or.inl (hs _ (List.mem_of_getElem? fl_232))
          | 10, _, hij => Or.inl (hs _ (List.mem_of_getElem? fl_249))
          | 11, _, hij => Or.inl (hs _ (List.mem_of_getElem? fl_267))
          | 12, _, hij => Or.inl (hs _ (List.mem_of_getElem? fl_285))
          | 13, _, hij => Or.inl (hs _ (List.mem_of_getElem? fl_301))
          | k8 + 14, h8, _ => absurd h8 (by omega)
      | 3, _ => match j, hj, hij with
          | 0, _, hij => Or.inr (hs _ (List.mem_of_getElem? fl_145))
          | 1, _, hij => Or.inr (hs _ (List.mem_of_getElem? fl_146))
          | 2, _, hij => Or.inr (hs _ (List.mem_of_getElem? fl_147))
          | 3, _, hij => absurd rfl hij
          | 4, _, hij => Or.inl (hs _ (List.mem_of_getElem? fl_158))
          | 5, _, hij => Or.inl (hs _ (List.mem_of_getElem? fl_172))
          | 6, _, hij => Or.inl (hs _ (List.mem_of_getElem? fl_188))
          | 7, _, hij => Or.inl (hs _ (List.mem_of_getElem? fl_203))
          | 8, _, hij => Or.inl (hs _ (List.mem_of_getElem? fl_217))
          | 9, _, hij => Or.inl (hs _ (List.mem_of_getElem? fl_233))
          | 10, _, hij => Or.inl (hs _ (List.mem_of_getElem? fl_250))
          | 11, _, hij => Or.inl (hs _ (List.mem_of_getElem? fl_268))
          | 12, _, hij => Or.inl (hs _ (List.mem_of_getElem? fl_286))
          | 13, _, hij => Or.inl (hs _ (List.mem_of_getElem? fl_302))
          | k8 + 14, h8, _ => absurd h8 (by omega)
      | 4, _ => match j, hj, hij with
          | 0, _, hij => Or.inr (hs _ (List.mem_of_getElem? fl_155))
          | 1, _, hij => Or.inr (hs _ (List.mem_of_getElem? fl_156))
          | 2, _, hij => Or.inr (hs _ (List.mem_of_getElem? fl_157))
          | 3, _, hij => Or.inr (hs _ (List.mem_of_getElem? fl_158))
          | 4, _, hij => absurd rfl hij
          | 5, _, hij => Or.inl (hs _ (List.mem_of_getElem? fl_173))
          | 6, _, hij => Or.inl (hs _ (List.mem_of_getElem? fl_189))
          | 7, _, hij => Or.inl (hs _ (List.mem_of_getElem? fl_204))
          | 8, _, hij => Or.inl (hs _ (List.mem_of_getElem? fl_218))
          | 9, _, hij => Or.inl (hs _ (List.mem_of_getElem? fl_234))
          | 10, _, hij => Or.inl (hs _ (List.mem_of_getElem? fl_251))
          | 11, _, hij => Or.inl (hs _ (List.mem_of_getElem? fl_269))
          | 12, _, hij => Or.inl (hs _ (List.mem_of_getElem? fl_287))
          | 13, _, hij => Or.inl (hs _ (List.mem_of_getElem? fl_303))
          | k8 + 14, h8, _ => absurd h8 (by omega)
      | 5, _ => match j, hj, hij with
          | 0, _, hij => Or.inr (hs _ (List.mem_of_getElem? fl_169))
          | 1, _, hij => Or.inr (hs _ (List.mem_of_getElem? fl_170))
          | 2, _, hij => Or.inr (hs _ (List.mem_of_getElem? fl_171))
          | 3, _, hij => Or.inr (hs _ (List.mem_of_getElem? fl_172))
          | 4, _, hij => Or.inr (hs _ (List.mem_of_getElem? fl_173))
          | 5, _, hij => absurd rfl hij
          | 6, _, hij => Or.inl (hs _ (List.mem_of_getElem? fl_190))
          | 7, _, hij => Or.inl (hs _ (List.mem_of_getElem? fl_205))
          | 8, _, hij => Or.inl (hs _ (List.mem_of_getElem? fl_219))
          | 9, _, hij => Or.inl (hs _ (List.mem_of_getElem? fl_235))
          | 10, _, hij => Or.inl (hs _ (List.mem_of_getElem? fl_252))
          | 11, _, hij => Or.inl (hs _ (List.mem_of_getElem? fl_270))
          | 12, _, hij => Or.inl (hs _ (List.mem_of_getElem? fl_288))
          | 13, _, hij => Or.inl (hs _ (List.mem_of_getElem? fl_304))
          | k8 + 14, h8, _ => absurd h8 (by omega)
      | 6, _ => match j, hj, hij with
          | 0, _, hij => Or.inr (hs _ (List.mem_of_getElem? fl_185))
          | 1, _, hij => Or.inr (hs _ (List.mem_of_getElem? fl_186))
          | 2, _, hij => Or.inr (hs _ (List.mem_of_getElem? fl_187))
          | 3, _, hij => Or.inr (hs _ (List.mem_of_getElem? fl_188))
          | 4, _, hij => Or.inr (hs _ (List.mem_of_getElem? fl_189))
          | 5, _, hij => Or.inr (hs _ (List.mem_of_getElem? fl_190))
          | 6, _, hij => absurd rfl hij
          | 7, _, hij => Or.inl (hs _ (List.mem_of_getElem? fl_206))
          | 8, _, hij => Or.inl (hs _ (List.mem_of_getElem? fl_220))
          | 9, _, hij => Or.inl (hs _ (List.mem_of_getElem? fl_236))
          | 10, _, hij => Or.inl (hs _ (List.mem_of_getElem? fl_253))
          | 11, _, hij => Or.inl (hs _ (List.mem_of_getElem? fl_271))
          | 12, _, hij => Or.inl (hs _ (List.mem_of_getElem? fl_289))
          | 13, _, hij => Or.inl (hs _ (List.mem_of_getElem? fl_305))
          | k8 + 14, h8, _ => absurd h8 (by omega)
      | 7, _ => match j, hj, hij with
          | 0, _, hij => Or.inr (hs _ (List.mem_of_getElem? fl_200))
          | 1, _, hij => Or.inr (hs _ (List.mem_of_getElem? fl_201))
          | 2, _, hij => Or.inr (hs _ (List.mem_of_getElem? fl_202))
          | 3, _, hij => Or.inr (hs _ (List.mem_of_getElem? fl_203))
          | 4, _, hij => Or.inr (hs _ (List.mem_of_getElem? fl_204))
          | 5, _, hij => Or.inr (hs _ (List.mem_of_getElem? fl_205))
          | 6, _, hij => Or.inr (hs _ (List.mem_of_getElem? fl_206))
          | 7, _, hij => absurd rfl hij
          | 8, _, hij => Or.inl (hs _ (List.mem_of_getElem? fl_221))
          | 9, _, hij => Or.inl (hs _ (List.mem_of_getElem? fl_237))
          | 10, _, hij => Or.inl (hs _ (List.mem_of_getElem? fl_254))
          | 11, _, hij => Or.inl (hs _ (List.mem_of_getElem? fl_272))
          | 12, _, hij => Or.inl (hs _ (List.mem_of_getElem? fl_290))
          | 13, _, hij => Or.inl (hs _ (List.mem_of_getElem? fl_306))
          | k8 + 14, h8, _ => absurd h8 (by omega)
      | 8, _ => match j, hj, hij with
          | 0, _, hij => Or.inr (hs _ (List.mem_of_getElem? fl_214))
          | 1, _, hij => Or.inr (hs _ (List.mem_of_getElem? fl_215))
          | 2, _, hij => Or.inr (hs _ (List.mem_of_getElem? fl_216))
          | 3, _, hij => Or.inr (hs _ (List.mem_of_getElem? fl_217))
          | 4, _, hij => Or.inr (hs _ (List.mem_of_getElem? fl_218))
          | 5, _, hij => Or.inr (hs _ (List.mem_of_getElem? fl_219))
          | 6, _, hij => Or.inr (hs _ (List.mem_of_getElem? fl_220))
          | 7, _, hij => Or.inr (hs _ (List.mem_of_getElem? fl_221))
          | 8, _, hij => absurd rfl hij
          | 9, _, hij => Or.inl (hs _ (List.mem_of_getElem? fl_238))
          | 10, _, hij => Or.inl (hs _ (List.mem_of_getElem? fl_255))
          | 11, _, hij => Or.inl (hs _ (List.mem_of_getElem? fl_273))
          | 12, _, hij => Or.inl (hs _ (List.mem_of_getElem? fl_291))
          | 13, _, hij => Or.inl (hs _ (List.mem_of_getElem? fl_307))
          | k8 + 14, h8, _ => absurd h8 (by omega)
      | 9, _ => match j, hj, hij with
          | 0, _, hij => Or.inr (hs _ (List.mem_of_getElem? fl_230))
          | 1, _, hij => Or.inr (hs _ (List.mem_of_getElem? fl_231))
          | 2, _, hij => Or.inr (hs _ (List.mem_of_getElem? fl_232))
          | 3, _, hij => Or.inr (hs _ (List.mem_of_getElem? fl_233))
          | 4, _, hij => Or.inr (hs _ (List.mem_of_getElem? fl_234))
          | 5, _, hij => Or.inr (hs _ (List.mem_of_getElem? fl_235))
          | 6, _, hij => Or.inr (hs _ (List.mem_of_getElem? fl_236))
          | 7, _, hij => Or.inr (hs _ (List.mem_of_getElem? fl_237))
          | 8, _, hij => Or.inr (hs _ (List.mem_of_getElem? fl_238))
          | 9, _, hij => absurd rfl hij
          | 10, _, hij => Or.inl (hs _ (List.mem_of_getElem? fl_256))
          | 11, _, hij => Or.inl (hs _ (List.mem_of_getElem? fl_274))
          | 12, _, hij => Or.inl (hs _ (List.mem_of_getElem? fl_292))
          | 13, _, hij => Or.inl (hs _ (List.mem_of_getElem? fl_308))
          | k8 + 14, h8, _ => absurd h8 (by omega)
      | 10, _ => match j, hj, hij with
          | 0, _, hij => Or.inr (hs _ (List.mem_of_getElem? fl_247))
          | 1, _, hij => Or.inr (hs _ (List.mem_of_getElem? fl_248))
          | 2, _, hij => Or.inr (hs _ (List.mem_of_getElem? fl_249))
          | 3, _, hij => Or.inr (hs _ (List.mem_of_getElem? fl_250))
          | 4, _, hij => Or.inr (hs _ (List.mem_of_getElem? fl_251))
          | 5, _, hij => Or.inr (hs _ (List.mem_of_getElem? fl_252))
          | 6, _, hij => Or.inr (hs _ (List.mem_of_getElem? fl_253))
          | 7, _, hij => Or.inr (hs _ (List.mem_of_getElem? fl_254))
          | 8, _, hij => Or.inr (hs _ (List.mem_of_getElem? fl_255))
          | 9, _, hij => Or.inr (hs _ (List.mem_of_getElem? fl_256))
          | 10, _, hij => absurd rfl hij
          | 11, _, hij => Or.inl (hs _ (List.mem_of_getElem? fl_275))
          | 12, _, hij => Or.inl (hs _ (List.mem_of_getElem? fl_293))
          | 13, _, hij => Or.inl (hs _ (List.mem_of_getElem? fl_309))
          | k8 + 14, h8, _ => absurd h8 (by omega)
      | 11, _ => match j, hj, hij with
          | 0, _, hij => Or.inr (hs _ (List.mem_of_getElem? fl_265))
          | 1, _, hij => Or.inr (hs _ (List.mem_of_getElem? fl_266))
          | 2, _, hij => Or.inr (hs _ (List.mem_of_getElem? fl_267))
          | 3, _, hij => Or.inr (hs _ (List.mem_of_getElem? fl_268))
          | 4, _, hij => Or.inr (hs _ (List.mem_of_getElem? fl_269))
          | 5, _, hij => Or.inr (hs _ (List.mem_of_getElem? fl_270))
          | 6, _, hij => Or.inr (hs _ (List.mem_of_getElem? fl_271))
          | 7, _, hij => Or.inr (hs _ (List.mem_of_getElem? fl_272))
          | 8, _, hij => Or.inr (hs _ (List.mem_of_getElem? fl_273))
          | 9, _, hij => Or.inr (hs _ (List.mem_of_getElem? fl_274))
          | 10, _, hij => Or.inr (hs _ (List.mem_of_getElem? fl_275))
          | 11, _, hij => absurd rfl hij
          | 12, _, hij => Or.inl (hs _ (List.mem_of_getElem? fl_294))
          | 13, _, hij => Or.inl (hs _ (List.mem_of_getElem? fl_310))
          | k8 + 14, h8, _ => absurd h8 (by omega)
      | 12, _ => match j, hj, hij with
          | 0, _, hij => Or.inr (hs _ (List.mem_of_getElem? fl_283))
          | 1, _, hij => Or.inr (hs _ (List.mem_of_getElem? fl_284))
          | 2, _, hij => Or.inr (hs _ (List.mem_of_getElem? fl_285))
          | 3, _, hij => Or.inr (hs _ (List.mem_of_getElem? fl_286))
          | 4, _, hij => Or.inr (hs _ (List.mem_of_getElem? fl_287))
          | 5, _, hij => Or.inr (hs _ (List.mem_of_getElem? fl_288))
          | 6, _, hij => Or.inr (hs _ (List.mem_of_getElem? fl_289))
          | 7, _, hij => Or.inr (hs _ (List.mem_of_getElem? fl_290))
          | 8, _, hij => Or.inr (hs _ (List.mem_of_getElem? fl_291))
          | 9, _, hij => Or.inr (hs _ (List.mem_of_getElem? fl_292))
          | 10, _, hij => Or.inr (hs _ (List.mem_of_getElem? fl_293))
          | 11, _, hij => Or.inr (hs _ (List.mem_of_getElem? fl_294))
          | 12, _, hij => absurd rfl hij
          | 13, _, hij => Or.inl (hs _ (List.mem_of_getElem? fl_311))
          | k8 + 14, h8, _ => absurd h8 (by omega)
      | 13, _ => match j, hj, hij with
          | 0, _, hij => Or.inr (hs _ (List.mem_of_getElem? fl_299))
          | 1, _, hij => Or.inr (hs _ (List.mem_of_getElem? fl_300))
          | 2, _, hij => Or.inr (hs _ (List.mem_of_getElem? fl_301))
          | 3, _, hij => Or.inr (hs _ (List.mem_of_getElem? fl_302))
          | 4, _, hij => Or.inr (hs _ (List.mem_of_getElem? fl_303))
          | 5, _, hij => Or.inr (hs _ (List.mem_of_getElem? fl_304))
          | 6, _, hij => Or.inr (hs _ (List.mem_of_getElem? fl_305))
          | 7, _, hij => Or.inr (hs _ (List.mem_of_getElem? fl_306))
          | 8, _, hij => Or.inr (hs _ (List.mem_of_getElem? fl_307))
          | 9, _, hij => Or.inr (hs _ (List.mem_of_getElem? fl_308))
          | 10, _, hij => Or.inr (hs _ (List.mem_of_getElem? fl_309))
          | 11, _, hij => Or.inr (hs _ (List.mem_of_getElem? fl_310))
          | 12, _, hij => Or.inr (hs _ (List.mem_of_getElem? fl_311))
          | 13, _, hij => absurd rfl hij
          | k8 + 14, h8, _ => absurd h8 (by omega)
      | k9 + 14, h9 => absurd h9 (by omega)) hA
  have hNest : ∀ w ∈ zNest, va_Nw w s := fun w hw => by
    obtain ⟨h1, h2⟩ := (by decide +kernel : ∀ w ∈ zNest, w ∈ lw_tbl ∧ w.onTables = true) w hw
    exact va_Nw.of h2 (hts _ h1)
  let D : va_G := (fun k => match k with | 0 => k0 | 1 => k1 | 2 => k2 | 3 => k3 | 4 => k4 | 5 => k5 | 6 => k6 | 7 => k7 | 8 => k8 | 9 => k9 | 10 => k10 | _ => k11, fun k => match k with | 0 => i0 | 1 => i1 | 2 => i2 | 3 => i3 | 4 => i4 | 5 => i5 | 6 => i6 | 7 => i7 | 8 => i8 | 9 => i9 | 10 => i10 | _ => i11)
  let cy : Nat → ClassId := fun k => match k with | 0 => a0 | 1 => a1 | 2 => a2 | 3 => a3 | 4 => a4 | 5 => a5 | 6 => a6 | 7 => a7 | 8 => a8 | _ => a9
  let sa : Nat → Nat := fun n => if n = 0 then tb else if n = 1 then tc else if n = 2 then td else if n < 17 then adK (n - 3) else adV (n - 17)
  have hK : va_K D vwCl (zty cy) s := by
    refine ⟨fun k q hq => ?_, fun k q hq => ?_⟩
    · match k, hq with
      | 0, hq => cases hq; exact hk0
      | 1, hq => cases hq; exact hk1
      | 2, hq => cases hq; exact hk2
      | 3, hq => cases hq; exact hk3
      | 4, hq => cases hq; exact hk4
      | 5, hq => cases hq; exact hk5
      | 6, hq => cases hq; exact hk6
      | 7, hq => cases hq; exact hk7
      | 8, hq => cases hq; exact hk8
      | 9, hq => cases hq; exact hk9
      | 10, hq => cases hq; exact hk10
      | 11, hq => cases hq; exact hk11
      | k + 12, hq => exact absurd (List.getElem?_eq_some_iff.mp hq).1 (by show ¬ k + 12 < 12; omega)
    · match k, hq with
      | 0, hq => cases hq; exact ha0
      | 1, hq => cases hq; exact ha1
      | 2, hq => cases hq; exact ha2
      | 3, hq => cases hq; exact ha3
      | 4, hq => cases hq; exact ha4
      | 5, hq => cases hq; exact ha5
      | 6, hq => cases hq; exact ha6
      | 7, hq => cases hq; exact ha7
      | 8, hq => cases hq; exact ha8
      | 9, hq => cases hq; exact ha9
      | k + 10, hq => exact absurd (List.getElem?_eq_some_iff.mp hq).1 (by show ¬ k + 10 < 10; omega)
  have qK : ∀ k, k < 14 → sa (3 + k) = adK k := by
    intro k hk
    show (if 3 + k = 0 then tb else if 3 + k = 1 then tc else if 3 + k = 2 then td else if 3 + k < 17 then adK (3 + k - 3) else adV (3 + k - 17)) = adK k
    rw [if_neg (by omega), if_neg (by omega), if_neg (by omega), if_pos (by omega), show 3 + k - 3 = k by omega]
  have qV : ∀ k, sa (3 + 14 + k) = adV k := by
    intro k
    show (if 3 + 14 + k = 0 then tb else if 3 + 14 + k = 1 then tc else if 3 + 14 + k = 2 then td else if 3 + 14 + k < 17 then adK (3 + 14 + k - 3) else adV (3 + 14 + k - 17)) = adV k
    rw [if_neg (by omega), if_neg (by omega), if_neg (by omega), if_neg (by omega), show 3 + 14 + k - 17 = k by omega]
  refine ⟨D, cy, sa, ⟨hK, hNest, ⟨zb, zc, zd, ⟨?_, ?_, ?_⟩⟩, fun k hk => ?_⟩, ⟨⟨va_AO.of o4, va_AO.of o5, va_AO.of o6, va_AO.of o7, va_AO.of o8⟩, zAI_of o9⟩⟩
  · refine ⟨fun i hi => ?_, fun i j hi hj e => hStr.2 i j hi hj (by rw [← qK i hi, ← qK j hj]; exact e)⟩
    show va_O "java/lang/String" (sa (3 + i)) _ _ _ ∧ va_OF "java/lang/String" "coder" "B" (.int 0) (sa (3 + i)) _ _ _ ∧ va_OF "java/lang/String" "value" "[B" (.ref (sa (3 + 14 + i))) (sa (3 + i)) _ _ _ ∧ va_T .byte (sa (3 + 14 + i)) _ _ _ _ _
    rw [qK i hi, qV i]
    exact hStr.1 i hi
  · exact va_Zof (hts _ (List.mem_of_getElem? (i := 680) (by decide +kernel))) (hts _ (List.mem_of_getElem? (i := 142) (by decide +kernel))) (va_eqi (hs _ (List.mem_of_getElem? fl_4))) hA
  · exact va_Zqof (hts _ (List.mem_of_getElem? (i := 696) (by decide +kernel))) (hts _ (List.mem_of_getElem? (i := 144) (by decide +kernel))) (hs _ (List.mem_of_getElem? fl_5)) hA
  · refine vk_R.of (A := #[Value.ref b]) ?_ ?_
    · match k, hk with
      | 0, _ => exact (hts _ (List.mem_of_getElem? (i := 653) (by decide +kernel)))
      | 1, _ => exact (hts _ (List.mem_of_getElem? (i := 654) (by decide +kernel)))
      | 2, _ => exact (hts _ (List.mem_of_getElem? (i := 655) (by decide +kernel)))
      | 3, _ => exact (hts _ (List.mem_of_getElem? (i := 656) (by decide +kernel)))
      | 4, _ => exact (hts _ (List.mem_of_getElem? (i := 657) (by decide +kernel)))
      | 5, _ => exact (hts _ (List.mem_of_getElem? (i := 658) (by decide +kernel)))
      | 6, _ => exact (hts _ (List.mem_of_getElem? (i := 659) (by decide +kernel)))
      | 7, _ => exact (hts _ (List.mem_of_getElem? (i := 660) (by decide +kernel)))
      | 8, _ => exact (hts _ (List.mem_of_getElem? (i := 661) (by decide +kernel)))
      | 9, _ => exact (hts _ (List.mem_of_getElem? (i := 662) (by decide +kernel)))
      | 10, _ => exact (hts _ (List.mem_of_getElem? (i := 663) (by decide +kernel)))
      | 11, _ => exact (hts _ (List.mem_of_getElem? (i := 664) (by decide +kernel)))
      | 12, _ => exact (hts _ (List.mem_of_getElem? (i := 665) (by decide +kernel)))
      | 13, _ => exact (hts _ (List.mem_of_getElem? (i := 666) (by decide +kernel)))
      | k9 + 14, h9 => exact absurd h9 (by omega)
    · have e9 := hEv k hk
      rw [qK k hk]
      exact e9
