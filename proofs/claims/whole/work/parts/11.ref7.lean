/-- soundness and ledger of a block by its parent's -/
def sSndS (acc rew tk tp mk : Int) (np : Nat) (pf pt pm : Nat → Int) (x : Option (Int → Int)) : Option (Int → Int) := match x with
  | none => none
  | some L => if decide (tk < tp) || !mIn mk 0 (acc - 1) then none else match sPay acc pf pt pm L np with
    | none => none
    | some M => some (upI M mk (M mk + rew))
def sSnd (P : Nat → Nat) (T mk : Nat → Int) (np : Nat → Nat) (pf pt pm : Nat → Nat → Int) (acc rew : Int) (L0 : Int → Int) : Nat → Option (Int → Int) :=
  pr P (some L0) (fun k x => sSndS acc rew (T k) (T (P k)) (mk k) (np k) (pf k) (pt k) (pm k) x)
def eq6 (L M : Int → Int) : Prop := ∀ a, 0 ≤ a → a < 6 → L a = M a
/-- alike on accounts -/
def eqO (x y : Option (Int → Int)) : Prop := (x = none ∧ y = none) ∨ ∃ L M, x = some L ∧ y = some M ∧ eq6 L M
theorem sPay_c {acc : Int} {pf pt pm : Nat → Int} {L L' : Int → Int} (h6 : acc ≤ 6) (h : eq6 L L') : ∀ n, eqO (sPay acc pf pt pm L n) (sPay acc pf pt pm L' n)
  | 0 => Or.inr ⟨_, _, rfl, rfl, h⟩
  | n + 1 => by
    rcases sPay_c (pf := pf) (pt := pt) (pm := pm) h6 h n with ⟨e1, e2⟩ | ⟨M, M', e1, e2, e3⟩
    · exact Or.inl ⟨sPay_no e1 1, sPay_no e2 1⟩
    · rw [sPay_s e1, sPay_s e2]
      cases hf : mIn (pf n) 0 (acc - 1) with
      | false => exact Or.inl ⟨rfl, rfl⟩
      | true =>
        cases ht : mIn (pt n) 0 (acc - 1) with
        | false => exact Or.inl ⟨rfl, rfl⟩
        | true =>
          have f1 := mIn_t.mp hf
          have t1 := mIn_t.mp ht
          have ef := e3 (pf n) (by omega) (by omega)
          rw [ef]
          cases hc : decide (pm n ≤ M' (pf n)) with
          | false => exact Or.inl ⟨rfl, rfl⟩
          | true =>
            have g : eq6 (upI M (pf n) (M' (pf n) - pm n)) (upI M' (pf n) (M' (pf n) - pm n)) := fun a a1 a2 => by
              unfold upI
              split
              · rfl
              · exact e3 a a1 a2
            refine Or.inr ⟨_, _, rfl, rfl, fun a a1 a2 => ?_⟩
            have gt := g (pt n) (by omega) (by omega)
            have ga := g a a1 a2
            rw [gt]
            show (if a = pt n then _ else _) = if a = pt n then _ else _
            split
            · rfl
            · exact ga
theorem sSndS_c {acc rew tk tp mk : Int} {np : Nat} {pf pt pm : Nat → Int} {x y : Option (Int → Int)} (h6 : acc ≤ 6) (h : eqO x y) : eqO (sSndS acc rew tk tp mk np pf pt pm x) (sSndS acc rew tk tp mk np pf pt pm y) := by
  rcases h with ⟨rfl, rfl⟩ | ⟨L, M, rfl, rfl, h⟩
  · exact Or.inl ⟨rfl, rfl⟩
  · unfold sSndS
    dsimp only
    by_cases hc : (decide (tk < tp) || !mIn mk 0 (acc - 1)) = true
    · rw [if_pos hc, if_pos hc]
      exact Or.inl ⟨rfl, rfl⟩
    · rw [if_neg hc, if_neg hc]
      have hm : mIn mk 0 (acc - 1) = true := by
        cases e : mIn mk 0 (acc - 1) with
        | true => rfl
        | false => rw [e] at hc; simp at hc
      have m1 := mIn_t.mp hm
      rcases sPay_c (pf := pf) (pt := pt) (pm := pm) h6 h np with ⟨e1, e2⟩ | ⟨A, B, e1, e2, e3⟩
      · rw [e1, e2]
        exact Or.inl ⟨rfl, rfl⟩
      · rw [e1, e2]
        refine Or.inr ⟨_, _, rfl, rfl, fun a a1 a2 => ?_⟩
        unfold upI
        rw [e3 mk (by omega) (by omega)]
        split
        · rfl
        · exact e3 a a1 a2
abbrev rS (X : Nat → Int → Int) (i : Nat) : Nat → Option (Int → Int) :=
  sSnd (rP X i) (rT X i) (fun k => mC X i k 2) (fun k => (mC X i k 3).toNat) (fun k => rF X i k) (fun k => rO X i k) (fun k => rM X i k) (X i 26) (mG X i 5) (fun a => mG X i (7 + a))
abbrev oA (X : Nat → Int → Int) (i : Nat) : Prop := (0 ≤ X i 26 ∧ X i 26 ≤ 6) ∧ oN X i ∧ (0 ≤ mG X i 5 ∧ mG X i 5 ≤ 99) ∧ in6 (fun a => mG X i (7 + a)) 99
abbrev oBs (X : Nat → Int → Int) (i n : Nat) : Prop := oB X i n ∧ oT X i n ∧ ∀ k : Nat, 1 ≤ k → k ≤ n → oP X i k ∧ (0 ≤ mC X i k 2 ∧ mC X i k 2 ≤ 5)
theorem rS_s {X : Nat → Int → Int} {i k : Nat} (h : rP X i k < k) : rS X i k = sSndS (X i 26) (mG X i 5) (rT X i k) (rT X i (rP X i k)) (mC X i k 2) (mC X i k 3).toNat (rF X i k) (rO X i k) (rM X i k) (rS X i (rP X i k)) := pr_s h
theorem rS_b {X : Nat → Int → Int} {i n : Nat} (hA : oA X i) (hB : oBs X i n) : ∀ k, k ≤ n → ∀ M, rS X i k = some M → in6 M (99 + 396 * k) :=
  pr_ind (rP_par hB.1) (fun (k : Nat) (x : Option (Int → Int)) => ∀ M, x = some M → in6 M (99 + 396 * k)) (fun M h => by
    cases h
    intro a a1 a2
    have := hA.2.2.2 a a1 a2
    exact ⟨by omega, by omega⟩) (fun k x k1 k2 hx M h => by
    obtain ⟨hP, hm⟩ := hB.2.2 k k1 k2
    have hp := rP_par hB.1 k k1 k2
    unfold sSndS at h
    cases x with
    | none => cases h
    | some L =>
      have hL := hx L rfl
      dsimp only at h
      split at h
      · cases h
      · cases e : sPay (X i 26) (rF X i k) (rO X i k) (rM X i k) L (mC X i k 3).toNat with
        | none => rw [e] at h; cases h
        | some A =>
          rw [e] at h
          cases h
          have hb := sPay_b hL _ A (fun j hj => by have := (hP.2.2 j (by omega)).2.2; exact ⟨by omega, by omega⟩) e
          intro a a1 a2
          have h1 := hb a a1 a2
          have h2 := hb _ hm.1 (by omega)
          have hr := hA.2.2.1
          unfold upI
          split
          · exact ⟨by omega, by omega⟩
          · exact ⟨by omega, by omega⟩)
def bsP (X : Nat → Int → Int) (i k : Nat) : Prop := 1 ≤ k ∧ oA X i ∧ (∃ n, oBs X i n ∧ k ≤ n) ∧ mHas (X i 35) (rP X i k) = (rS X i (rP X i k)).isSome ∧ ∀ M, rS X i (rP X i k) = some M → lM X i (rP X i k) M
theorem rF_off {X X1 : Nat → Int → Int} {i : Nat} (h : X1 (i + 7) = X (i + 7)) (h2 : X1 i = X i) (k : Int) : rF X1 i k = rF X i k := funext fun j => mC_off h h2 _ _
theorem rO_off {X X1 : Nat → Int → Int} {i : Nat} (h : X1 (i + 7) = X (i + 7)) (h2 : X1 i = X i) (k : Int) : rO X1 i k = rO X i k := funext fun j => mC_off h h2 _ _
theorem rM_off {X X1 : Nat → Int → Int} {i : Nat} (h : X1 (i + 7) = X (i + 7)) (h2 : X1 i = X i) (k : Int) : rM X1 i k = rM X i k := funext fun j => mC_off h h2 _ _
abbrev cX11_becomesSound : ByteArray := prog_13_method_49_code
def yX11_becomesSound : MethodName := ⟨RX11, "becomesSound", "(I)Z"⟩
theorem dX11_becomesSound_0 : decode cX11_becomesSound 0 = .ok (.aload_n 0, 1) := by decide +kernel
theorem dX11_becomesSound_1 : decode cX11_becomesSound 1 = .ok (.iload_n 1, 1) := by decide +kernel
theorem dX11_becomesSound_2 : decode cX11_becomesSound 2 = .ok (.invokevirtual 264, 3) := by decide +kernel
theorem dX11_becomesSound_5 : decode cX11_becomesSound 5 = .ok (.istore_n 2, 1) := by decide +kernel
theorem dX11_becomesSound_6 : decode cX11_becomesSound 6 = .ok (.aload_n 0, 1) := by decide +kernel
theorem dX11_becomesSound_7 : decode cX11_becomesSound 7 = .ok (.getfield 292, 3) := by decide +kernel
theorem dX11_becomesSound_10 : decode cX11_becomesSound 10 = .ok (.iload_n 2, 1) := by decide +kernel
theorem dX11_becomesSound_11 : decode cX11_becomesSound 11 = .ok (.invokestatic 92, 3) := by decide +kernel
theorem dX11_becomesSound_14 : decode cX11_becomesSound 14 = .ok (.ifCond .eq 29, 3) := by decide +kernel
theorem dX11_becomesSound_17 : decode cX11_becomesSound 17 = .ok (.aload_n 0, 1) := by decide +kernel
theorem dX11_becomesSound_18 : decode cX11_becomesSound 18 = .ok (.iload_n 1, 1) := by decide +kernel
theorem dX11_becomesSound_19 : decode cX11_becomesSound 19 = .ok (.invokevirtual 271, 3) := by decide +kernel
theorem dX11_becomesSound_22 : decode cX11_becomesSound 22 = .ok (.aload_n 0, 1) := by decide +kernel
theorem dX11_becomesSound_23 : decode cX11_becomesSound 23 = .ok (.iload_n 2, 1) := by decide +kernel
theorem dX11_becomesSound_24 : decode cX11_becomesSound 24 = .ok (.invokevirtual 271, 3) := by decide +kernel
theorem dX11_becomesSound_27 : decode cX11_becomesSound 27 = .ok (.if_icmp .lt 16, 3) := by decide +kernel
theorem dX11_becomesSound_30 : decode cX11_becomesSound 30 = .ok (.aload_n 0, 1) := by decide +kernel
theorem dX11_becomesSound_31 : decode cX11_becomesSound 31 = .ok (.aload_n 0, 1) := by decide +kernel
theorem dX11_becomesSound_32 : decode cX11_becomesSound 32 = .ok (.iload_n 1, 1) := by decide +kernel
theorem dX11_becomesSound_33 : decode cX11_becomesSound 33 = .ok (.iconst 2, 1) := by decide +kernel
theorem dX11_becomesSound_34 : decode cX11_becomesSound 34 = .ok (.invokevirtual 258, 3) := by decide +kernel
theorem dX11_becomesSound_37 : decode cX11_becomesSound 37 = .ok (.invokevirtual 289, 3) := by decide +kernel
theorem dX11_becomesSound_40 : decode cX11_becomesSound 40 = .ok (.ifCond .ne 5, 3) := by decide +kernel
theorem dX11_becomesSound_43 : decode cX11_becomesSound 43 = .ok (.iconst 0, 1) := by decide +kernel
theorem dX11_becomesSound_44 : decode cX11_becomesSound 44 = .ok (.ireturn, 1) := by decide +kernel
theorem dX11_becomesSound_45 : decode cX11_becomesSound 45 = .ok (.iconst 0, 1) := by decide +kernel
theorem dX11_becomesSound_46 : decode cX11_becomesSound 46 = .ok (.istore_n 3, 1) := by decide +kernel
theorem dX11_becomesSound_47 : decode cX11_becomesSound 47 = .ok (.iload_n 3, 1) := by decide +kernel
theorem dX11_becomesSound_48 : decode cX11_becomesSound 48 = .ok (.bipush 6, 2) := by decide +kernel
theorem dX11_becomesSound_50 : decode cX11_becomesSound 50 = .ok (.if_icmp .ge 31, 3) := by decide +kernel
theorem dX11_becomesSound_53 : decode cX11_becomesSound 53 = .ok (.aload_n 0, 1) := by decide +kernel
theorem dX11_becomesSound_54 : decode cX11_becomesSound 54 = .ok (.getfield 57, 3) := by decide +kernel
theorem dX11_becomesSound_57 : decode cX11_becomesSound 57 = .ok (.bipush 6, 2) := by decide +kernel
theorem dX11_becomesSound_59 : decode cX11_becomesSound 59 = .ok (.iload_n 1, 1) := by decide +kernel
theorem dX11_becomesSound_60 : decode cX11_becomesSound 60 = .ok (.imul, 1) := by decide +kernel
theorem dX11_becomesSound_61 : decode cX11_becomesSound 61 = .ok (.iload_n 3, 1) := by decide +kernel
theorem dX11_becomesSound_62 : decode cX11_becomesSound 62 = .ok (.iadd, 1) := by decide +kernel
theorem dX11_becomesSound_63 : decode cX11_becomesSound 63 = .ok (.aload_n 0, 1) := by decide +kernel
theorem dX11_becomesSound_64 : decode cX11_becomesSound 64 = .ok (.getfield 57, 3) := by decide +kernel
theorem dX11_becomesSound_67 : decode cX11_becomesSound 67 = .ok (.bipush 6, 2) := by decide +kernel
theorem dX11_becomesSound_69 : decode cX11_becomesSound 69 = .ok (.iload_n 2, 1) := by decide +kernel
theorem dX11_becomesSound_70 : decode cX11_becomesSound 70 = .ok (.imul, 1) := by decide +kernel
theorem dX11_becomesSound_71 : decode cX11_becomesSound 71 = .ok (.iload_n 3, 1) := by decide +kernel
theorem dX11_becomesSound_72 : decode cX11_becomesSound 72 = .ok (.iadd, 1) := by decide +kernel
theorem dX11_becomesSound_73 : decode cX11_becomesSound 73 = .ok (.iaload, 1) := by decide +kernel
theorem dX11_becomesSound_74 : decode cX11_becomesSound 74 = .ok (.iastore, 1) := by decide +kernel
theorem dX11_becomesSound_75 : decode cX11_becomesSound 75 = .ok (.iinc 3 1, 3) := by decide +kernel
theorem dX11_becomesSound_78 : decode cX11_becomesSound 78 = .ok (.goto (-31), 3) := by decide +kernel
theorem dX11_becomesSound_81 : decode cX11_becomesSound 81 = .ok (.aload_n 0, 1) := by decide +kernel
theorem dX11_becomesSound_82 : decode cX11_becomesSound 82 = .ok (.iload_n 1, 1) := by decide +kernel
theorem dX11_becomesSound_83 : decode cX11_becomesSound 83 = .ok (.invokevirtual 295, 3) := by decide +kernel
theorem dX11_becomesSound_86 : decode cX11_becomesSound 86 = .ok (.ifCond .ne 5, 3) := by decide +kernel
theorem dX11_becomesSound_89 : decode cX11_becomesSound 89 = .ok (.iconst 0, 1) := by decide +kernel
theorem dX11_becomesSound_90 : decode cX11_becomesSound 90 = .ok (.ireturn, 1) := by decide +kernel
theorem dX11_becomesSound_91 : decode cX11_becomesSound 91 = .ok (.aload_n 0, 1) := by decide +kernel
theorem dX11_becomesSound_92 : decode cX11_becomesSound 92 = .ok (.getfield 57, 3) := by decide +kernel
theorem dX11_becomesSound_95 : decode cX11_becomesSound 95 = .ok (.bipush 6, 2) := by decide +kernel
theorem dX11_becomesSound_97 : decode cX11_becomesSound 97 = .ok (.iload_n 1, 1) := by decide +kernel
theorem dX11_becomesSound_98 : decode cX11_becomesSound 98 = .ok (.imul, 1) := by decide +kernel
theorem dX11_becomesSound_99 : decode cX11_becomesSound 99 = .ok (.aload_n 0, 1) := by decide +kernel
theorem dX11_becomesSound_100 : decode cX11_becomesSound 100 = .ok (.iload_n 1, 1) := by decide +kernel
theorem dX11_becomesSound_101 : decode cX11_becomesSound 101 = .ok (.iconst 2, 1) := by decide +kernel
theorem dX11_becomesSound_102 : decode cX11_becomesSound 102 = .ok (.invokevirtual 258, 3) := by decide +kernel
theorem dX11_becomesSound_105 : decode cX11_becomesSound 105 = .ok (.iadd, 1) := by decide +kernel
theorem dX11_becomesSound_106 : decode cX11_becomesSound 106 = .ok (.dup2, 1) := by decide +kernel
theorem dX11_becomesSound_107 : decode cX11_becomesSound 107 = .ok (.iaload, 1) := by decide +kernel
theorem dX11_becomesSound_108 : decode cX11_becomesSound 108 = .ok (.aload_n 0, 1) := by decide +kernel
theorem dX11_becomesSound_109 : decode cX11_becomesSound 109 = .ok (.iconst 5, 1) := by decide +kernel
theorem dX11_becomesSound_110 : decode cX11_becomesSound 110 = .ok (.invokevirtual 280, 3) := by decide +kernel
theorem dX11_becomesSound_113 : decode cX11_becomesSound 113 = .ok (.iadd, 1) := by decide +kernel
theorem dX11_becomesSound_114 : decode cX11_becomesSound 114 = .ok (.iastore, 1) := by decide +kernel
theorem dX11_becomesSound_115 : decode cX11_becomesSound 115 = .ok (.iconst 1, 1) := by decide +kernel
theorem dX11_becomesSound_116 : decode cX11_becomesSound 116 = .ok (.ireturn, 1) := by decide +kernel
theorem q_1322 : Cond.fieldLink RX11 292 RX11 "sound" "I" ∈ zTB := zmem 1322 (by decide +kernel) rfl
theorem q_1708 : Cond.methodLink RX11 295 yX11_pays ∈ zTB := zmem 1708 (by decide +kernel) rfl
theorem q_1710 : Cond.instanceMethod yX11_pays ∈ zTB := zmem 1710 (by decide +kernel) rfl
theorem q_74 : Cond.selects RX11 yX11_pays yX11_pays ∈ zTB := zmem 74 (by decide +kernel) rfl
theorem q_1711 : Cond.code yX11_pays cX11_pays 6 (some .boolean) ∈ zTB := zmem 1711 (by decide +kernel) rfl
theorem k_RX11_295 : zLv RX11 295 RX11 yX11_pays cX11_pays 6 (some .boolean) 1 := ⟨⟨q_1708, q_1710, q_74, q_140, q_1711⟩, rfl, ⟨by decide, by decide⟩, by decide +kernel⟩
def F_X11_becomesSound (i : Nat) (X Y : Nat → Int → Int) (R : Nat → Int → Option Nat) (a : Int) : Prop := (∀ i j, rI (X i j)) → (∀ i j, rL (Y i j)) → (oC X i ∧ 0 ≤ a ∧ a ≤ 14) ∧ (rI (mPar X i (a)) → ((((mHas (X (i) 35) (mPar X i (a))) = false) → (lL X (X) i (a) ∧ false = (rS X i (a).toNat).isSome ∧ ∀ M, rS X i (a).toNat = some M → lM (X) i (a) M)) ∧ (((mHas (X (i) 35) (mPar X i (a))) = true) → ((oC X i ∧ 0 ≤ a ∧ a ≤ 14) ∧ (rI (mTim X i (a)) → ((oC X i ∧ 0 ≤ mPar X i (a) ∧ mPar X i (a) ≤ 14) ∧ (rI (mTim X i (mPar X i (a))) → ((((mTim X i (a)) < (mTim X i (mPar X i (a)))) → (lL X (X) i (a) ∧ false = (rS X i (a).toNat).isSome ∧ ∀ M, rS X i (a).toNat = some M → lM (X) i (a) M)) ∧ ((¬ ((mTim X i (a)) < (mTim X i (mPar X i (a))))) → ((oC X i ∧ 1 ≤ a ∧ a ≤ 14 ∧ 0 ≤ (2 : Int) ∧ (2 : Int) ≤ 12) ∧ (rI (mC X i (a) ((2 : Int))) → ((0 ≤ X i 26) ∧ ((((mIn (mC X i (a) ((2 : Int))) 0 (X i 26 - 1)) = true) → ((∃ q : Nat, (0 : Int) = q ∧ (0 : Int) ≤ 6 ∧ lL X X i a ∧ ∀ b, 0 ≤ b → b < (0 : Int) → X (i + 16) (6 * a + b) = X (i + 16) (6 * mPar X i a + b)) ∧ (∀ (j : Int) (X14 : Nat → Int → Int), rI j → (∀ i j, rI (X14 i j)) → (∃ q : Nat, j = q ∧ j ≤ 6 ∧ lL X X14 i a ∧ ∀ b, 0 ≤ b → b < j → X14 (i + 16) (6 * a + b) = X (i + 16) (6 * mPar X i a + b)) → (((6 ≤ j) → ((oC X14 i ∧ (1 ≤ a ∧ a ≤ 14) ∧ (0 ≤ X14 i 26 ∧ X14 i 26 ≤ 6) ∧ oP X14 i a ∧ in6 (rL9 X14 i a) 1000000000) ∧ (∀ r18 : Bool, ∀ X17 : Nat → Int → Int, (∀ i j, rI (X17 i j)) → (lL X14 (X17) i (a) ∧ pR (sPay (X14 i 26) (rF X14 i (a)) (rO X14 i (a)) (rM X14 i (a)) (rL9 X14 i (a)) (mC X14 i (a) 3).toNat) r18 (X17) i (a)) → (((r18 = true) → ((oC X17 i ∧ 1 ≤ a ∧ a ≤ 14 ∧ 0 ≤ (2 : Int) ∧ (2 : Int) ≤ 12) ∧ (rI (mC X17 i (a) ((2 : Int))) → ((0 ≤ ((6 * a) + (mC X17 i (a) ((2 : Int)))) ∧ ((6 * a) + (mC X17 i (a) ((2 : Int)))) < 90) ∧ ((oN X17 i ∧ 0 ≤ (5 : Int) ∧ (5 : Int) ≤ 12) ∧ (rI (mG X17 i ((5 : Int))) → ((0 ≤ ((6 * a) + (mC X17 i (a) ((2 : Int)))) ∧ ((6 * a) + (mC X17 i (a) ((2 : Int)))) < 90) ∧ ((rI ((X17 (i + 16) ((6 * a) + (mC X17 i (a) ((2 : Int))))) + (mG X17 i ((5 : Int))))) ∧ (∀ X27 : Nat → Int → Int, X27 = zU X17 (i + 16) ((6 * a) + (mC X17 i (a) ((2 : Int)))) ((X17 (i + 16) ((6 * a) + (mC X17 i (a) ((2 : Int))))) + (mG X17 i ((5 : Int)))) → (∀ i j, rI (X27 i j)) → (lL X (X27) i (a) ∧ true = (rS X i (a).toNat).isSome ∧ ∀ M, rS X i (a).toNat = some M → lM (X27) i (a) M)))))))))) ∧ ((r18 = false) → (lL X (X17) i (a) ∧ false = (rS X i (a).toNat).isSome ∧ ∀ M, rS X i (a).toNat = some M → lM (X17) i (a) M)))))) ∧ ((¬ (6 ≤ j)) → ((0 ≤ ((6 * (mPar X i (a))) + j) ∧ ((6 * (mPar X i (a))) + j) < 90) ∧ ((0 ≤ ((6 * a) + j) ∧ ((6 * a) + j) < 90) ∧ (∀ X30 : Nat → Int → Int, X30 = zU X14 (i + 16) ((6 * a) + j) (X14 (i + 16) ((6 * (mPar X i (a))) + j)) → (∀ i j, rI (X30 i j)) → ((rI (j + 1)) ∧ (∃ q : Nat, j + 1 = q ∧ j + 1 ≤ 6 ∧ lL X X30 i a ∧ ∀ b, 0 ≤ b → b < j + 1 → X30 (i + 16) (6 * a + b) = X (i + 16) (6 * mPar X i a + b)) ∧ (((6 - (j + 1)).toNat) < ((6 - (j)).toNat))))))))))) ∧ (((mIn (mC X i (a) ((2 : Int))) 0 (X i 26 - 1)) = false) → (lL X (X) i (a) ∧ false = (rS X i (a).toNat).isSome ∧ ∀ M, rS X i (a).toNat = some M → lM (X) i (a) M)))))))))))))))
set_option maxHeartbeats 4000000 in
set_option maxRecDepth 100000 in
theorem w_X11_becomesSound {l : Launch} {D : va_G} {cy : Nat → ClassId} {bs N : Nat} {sa : Nat → Nat} {kd len : Nat → Nat} {X Y : Nat → Int → Int} {R : Nat → Int → Option Nat} {i : Nat} (hM : zM N kd len R i) (a : Int) (ha : rI a) (hF : F_X11_becomesSound i X Y R a) : Met l yX11_becomesSound (.code yX11_becomesSound cX11_becomesSound 4 (some .boolean) :: zTB) (zRm 3 68) (zPc D cy bs sa N kd len X Y R [.ref (bs + (i)), .int (zI (a))]) (zQi D cy bs N kd len (fun r st => st.2.1 = Y ∧ st.2.2 = R ∧ ∃ rb : Bool, r = bz rb ∧ (lL X (st.1) i (a) ∧ rb = (rS X i (a).toNat).isSome ∧ ∀ M, rS X i (a).toNat = some M → lM (st.1) i (a) M))) 0 0 (zA bs) := by
  refine zstart (by decide) (Nat.le_of_ble_eq_true rfl) ?_
  intro p e s m args below meth c ls C hE hH hr hlk hnm hl hargs
  have hF := hF hH.2.2.1 hH.2.2.2
  have hS : va_S (zA bs) s.heap s.heap [] := va_S.rf
  have hl : lv_has ls 4 [(0, .ref (bs + (i))), (1, .int (zI (a)))] := hl
  refine lv_aload_n C.1 C.2.1 dX11_becomesSound_0 rfl (lv_at hl 0 rfl) ?_
  refine lv_iload_n C.1 C.2.1 dX11_becomesSound_1 rfl (lv_at hl 1 rfl) ?_
  obtain ⟨o1, hF⟩ := hF
  refine zgoi (zrunV (As := [.int (zI (a))]) (rest := []) C hE hH hS hl.1 (c_X11_parentOf (l := l) hM (a) ha o1) k_RX11_264 ⟨Nat.le_of_ble_eq_true rfl, Nat.le_of_ble_eq_true rfl⟩ (zM_n0 hM) (zM_k0 hM) rfl rfl rfl (Nat.le_of_ble_eq_true rfl) dX11_becomesSound_2 ⟨Nat.zero_le _, Nat.zero_le _⟩) hS (fun rq Xq Yq Rq H locs hrq hq hH hS => ?_)
  obtain ⟨h91, h92⟩ := hq
  have h93 : Xq = X := congrArg (fun z => z.1) h92
  have h94 : Yq = Y := congrArg (fun z => z.2.1) h92
  have h95 : Rq = R := congrArg (fun z => z.2.2) h92
  rw [h93, h94, h95] at hH
  subst h91
  have hr2 := hrq
  have hF := hF hr2
  refine lv_istore_n (lv' := [(2, .int (zI (mPar X i (a)))), (0, .ref (bs + (i))), (1, .int (zI (a)))]) C.1 C.2.1 dX11_becomesSound_5 rfl hl (by decide) rfl (fun ls hl => ?_)
  refine lv_aload_n C.1 C.2.1 dX11_becomesSound_6 rfl (lv_at hl 1 rfl) ?_
  refine zg11_35 C hH (zM_n0 hM) (zM_k0 hM) q_1322 dX11_becomesSound_7 ?_
  refine lv_iload_n C.1 C.2.1 dX11_becomesSound_10 rfl (lv_at hl 0 rfl) ?_
  refine zgoi (zrunS (As := [.int (zI (X (i) 35)), .int (zI (mPar X i (a)))]) (rest := []) C hE hH hS hl.1 (c_X11_has (l := l)  (X (i) 35) (hH.2.2.1 _ _) (mPar X i (a)) hr2) k_RX11_92 ⟨Nat.le_of_ble_eq_true rfl, Nat.le_of_ble_eq_true rfl⟩ rfl (Nat.le_of_ble_eq_true rfl) dX11_becomesSound_11 ⟨Nat.zero_le _, Nat.zero_le _⟩) hS (fun rq Xq Yq Rq H locs hrq hq hH hS => ?_)
  obtain ⟨h91, h92⟩ := hq
  have h93 : Xq = X := congrArg (fun z => z.1) h92
  have h94 : Yq = Y := congrArg (fun z => z.2.1) h92
  have h95 : Rq = R := congrArg (fun z => z.2.2) h92
  rw [h93, h94, h95] at hH
  subst h91
  refine zd_ifB_eq C 43 dX11_becomesSound_14 (by decide) (fun c3 => ?_) (fun c3 => ?_)
  · have hF := hF.1 c3
    refine zd_iconst C dX11_becomesSound_43 ?_
    exact zd_zret C hr hlk hH hS (by decide) (⟨rfl, rfl, _, rfl, hF⟩) dX11_becomesSound_44
  · have hF := hF.2 c3
    refine lv_aload_n C.1 C.2.1 dX11_becomesSound_17 rfl (lv_at hl 1 rfl) ?_
    refine lv_iload_n C.1 C.2.1 dX11_becomesSound_18 rfl (lv_at hl 2 rfl) ?_
    obtain ⟨o4, hF⟩ := hF
    refine zgoi (zrunV (As := [.int (zI (a))]) (rest := []) C hE hH hS hl.1 (c_X11_timeOf (l := l) hM (a) ha o4) k_RX11_271 ⟨Nat.le_of_ble_eq_true rfl, Nat.le_of_ble_eq_true rfl⟩ (zM_n0 hM) (zM_k0 hM) rfl rfl rfl (Nat.le_of_ble_eq_true rfl) dX11_becomesSound_19 ⟨Nat.zero_le _, Nat.zero_le _⟩) hS (fun rq Xq Yq Rq H locs hrq hq hH hS => ?_)
    obtain ⟨h91, h92⟩ := hq
    have h93 : Xq = X := congrArg (fun z => z.1) h92
    have h94 : Yq = Y := congrArg (fun z => z.2.1) h92
    have h95 : Rq = R := congrArg (fun z => z.2.2) h92
    rw [h93, h94, h95] at hH
    subst h91
    have hr5 := hrq
    have hF := hF hr5
    refine lv_aload_n C.1 C.2.1 dX11_becomesSound_22 rfl (lv_at hl 1 rfl) ?_
    refine lv_iload_n C.1 C.2.1 dX11_becomesSound_23 rfl (lv_at hl 0 rfl) ?_
    obtain ⟨o6, hF⟩ := hF
    refine zgoi (zrunV (As := [.int (zI (mPar X i (a)))]) (rest := [.int (zI (mTim X i (a)))]) C hE hH hS hl.1 (c_X11_timeOf (l := l) hM (mPar X i (a)) hr2 o6) k_RX11_271 ⟨Nat.le_of_ble_eq_true rfl, Nat.le_of_ble_eq_true rfl⟩ (zM_n0 hM) (zM_k0 hM) rfl rfl rfl (Nat.le_of_ble_eq_true rfl) dX11_becomesSound_24 ⟨Nat.zero_le _, Nat.zero_le _⟩) hS (fun rq Xq Yq Rq H locs hrq hq hH hS => ?_)
    obtain ⟨h91, h92⟩ := hq
    have h93 : Xq = X := congrArg (fun z => z.1) h92
    have h94 : Yq = Y := congrArg (fun z => z.2.1) h92
    have h95 : Rq = R := congrArg (fun z => z.2.2) h92
    rw [h93, h94, h95] at hH
    subst h91
    have hr7 := hrq
    have hF := hF hr7
    refine zd_icmp_lt C hr5 hr7 43 dX11_becomesSound_27 (by decide) (fun c8 => ?_) (fun c8 => ?_)
    · have hF := hF.1 c8
      refine zd_iconst C dX11_becomesSound_43 ?_
      exact zd_zret C hr hlk hH hS (by decide) (⟨rfl, rfl, _, rfl, hF⟩) dX11_becomesSound_44
    · have hF := hF.2 c8
      refine lv_aload_n C.1 C.2.1 dX11_becomesSound_30 rfl (lv_at hl 1 rfl) ?_
      refine lv_aload_n C.1 C.2.1 dX11_becomesSound_31 rfl (lv_at hl 1 rfl) ?_
      refine lv_iload_n C.1 C.2.1 dX11_becomesSound_32 rfl (lv_at hl 2 rfl) ?_
      refine zd_iconst C dX11_becomesSound_33 ?_
      obtain ⟨o9, hF⟩ := hF
      refine zgoi (zrunV (As := [.int (zI (a)), .int (zI (2))]) (rest := [.ref (bs + (i))]) C hE hH hS hl.1 (c_X11_ofBlock (l := l) hM (a) ha (2) (by decide) o9) k_RX11_258 ⟨Nat.le_of_ble_eq_true rfl, Nat.le_of_ble_eq_true rfl⟩ (zM_n0 hM) (zM_k0 hM) rfl rfl rfl (Nat.le_of_ble_eq_true rfl) dX11_becomesSound_34 ⟨Nat.zero_le _, Nat.zero_le _⟩) hS (fun rq Xq Yq Rq H locs hrq hq hH hS => ?_)
      obtain ⟨h91, h92⟩ := hq
      have h93 : Xq = X := congrArg (fun z => z.1) h92
      have h94 : Yq = Y := congrArg (fun z => z.2.1) h92
      have h95 : Rq = R := congrArg (fun z => z.2.2) h92
      rw [h93, h94, h95] at hH
      subst h91
      have hr10 := hrq
      have hF := hF hr10
      obtain ⟨o11, hF⟩ := hF
      refine zgoi (zrunV (As := [.int (zI (mC X i (a) ((2 : Int))))]) (rest := []) C hE hH hS hl.1 (c_X11_isAccount (l := l) hM (mC X i (a) ((2 : Int))) hr10 o11) k_RX11_289 ⟨Nat.le_of_ble_eq_true rfl, Nat.le_of_ble_eq_true rfl⟩ (zM_n0 hM) (zM_k0 hM) rfl rfl rfl (Nat.le_of_ble_eq_true rfl) dX11_becomesSound_37 ⟨Nat.zero_le _, Nat.zero_le _⟩) hS (fun rq Xq Yq Rq H locs hrq hq hH hS => ?_)
      obtain ⟨h91, h92⟩ := hq
      have h93 : Xq = X := congrArg (fun z => z.1) h92
      have h94 : Yq = Y := congrArg (fun z => z.2.1) h92
      have h95 : Rq = R := congrArg (fun z => z.2.2) h92
      rw [h93, h94, h95] at hH
      subst h91
      refine zd_ifB_ne C 45 dX11_becomesSound_40 (by decide) (fun c12 => ?_) (fun c12 => ?_)
      · have hF := hF.1 c12
        refine zd_iconst C dX11_becomesSound_45 ?_
        refine lv_istore_n (lv' := [(3, .int (zI (0))), (2, .int (zI (mPar X i (a)))), (0, .ref (bs + (i))), (1, .int (zI (a)))]) C.1 C.2.1 dX11_becomesSound_46 rfl hl (by decide) rfl (fun ls hl => ?_)
        obtain ⟨hI13, hF⟩ := hF
        have L13 : ∀ (fu : Nat) (j : Int) (X14 : Nat → Int → Int), rI j → (∃ q : Nat, j = q ∧ j ≤ 6 ∧ lL X X14 i a ∧ ∀ b, 0 ≤ b → b < j → X14 (i + 16) (6 * a + b) = X (i + 16) (6 * mPar X i a + b)) → ((6 - (j)).toNat) < fu → ∀ (H : Heap) (locs : List Loc) (ls : Array Slot), zH D cy bs N kd len X14 Y R H → va_S (zA bs) s.heap H locs → lv_has ls 4 [(3, .int (zI (j))), (2, .int (zI (mPar X i (a)))), (0, .ref (bs + (i))), (1, .int (zI (a)))] → W p l e (zRm 3 68) s m args below meth c H locs 0 0 (MQ below (zQi D cy bs N kd len (fun r st => st.2.1 = Y ∧ st.2.2 = R ∧ ∃ rb : Bool, r = bz rb ∧ (lL X (st.1) i (a) ∧ rb = (rS X i (a).toNat).isSome ∧ ∀ M, rS X i (a).toNat = some M → lM (st.1) i (a) M))) args s 0 0 (zA bs)) (F0 m 47 ls []) := by
          intro fu
          induction fu with
          | zero => intro j X14 _ _ hmu; exact absurd hmu (Nat.not_lt_zero _)
          | succ fu ih13 =>
            intro j X14 hj hI hmu13 H locs ls hH hS hl
            have hF := hF j X14 hj hH.2.2.1 hI
            refine lv_iload_n C.1 C.2.1 dX11_becomesSound_47 rfl (lv_at hl 0 rfl) ?_
            refine zd_bipush C (by decide) dX11_becomesSound_48 ?_
            refine zd_icmp_ge C hj (by decide) 81 dX11_becomesSound_50 (by decide) (fun c15 => ?_) (fun c15 => ?_)
            · have hF := hF.1 c15
              refine lv_aload_n C.1 C.2.1 dX11_becomesSound_81 rfl (lv_at hl 2 rfl) ?_
              refine lv_iload_n C.1 C.2.1 dX11_becomesSound_82 rfl (lv_at hl 3 rfl) ?_
              obtain ⟨o16, hF⟩ := hF
              refine zgoi (zrunV (As := [.int (zI (a))]) (rest := []) C hE hH hS hl.1 (c_X11_pays (l := l) hM (a) ha o16) k_RX11_295 ⟨Nat.le_of_ble_eq_true rfl, Nat.le_of_ble_eq_true rfl⟩ (zM_n0 hM) (zM_k0 hM) rfl rfl rfl (Nat.le_of_ble_eq_true rfl) dX11_becomesSound_83 ⟨Nat.zero_le _, Nat.zero_le _⟩) hS (fun rq X17 Yq Rq H locs hrq hq hH hS => ?_)
              obtain ⟨h9Y, h9R, hq⟩ := hq
              dsimp only at h9Y h9R
              rw [h9Y, h9R] at hH
              obtain ⟨r18, h91, hq⟩ := hq
              subst h91
              have hF := hF r18 X17 hH.2.2.1 hq
              refine zd_ifB_ne C 91 dX11_becomesSound_86 (by decide) (fun c19 => ?_) (fun c19 => ?_)
              · have hF := hF.1 c19
                refine lv_aload_n C.1 C.2.1 dX11_becomesSound_91 rfl (lv_at hl 2 rfl) ?_
                refine zg11_34 C hH (zM_n0 hM) (zM_k0 hM) q_1321 (zM_r16 hM) dX11_becomesSound_92 ?_
                refine zd_bipush C (by decide) dX11_becomesSound_95 ?_
                refine lv_iload_n C.1 C.2.1 dX11_becomesSound_97 rfl (lv_at hl 3 rfl) ?_
                refine zd_imul C dX11_becomesSound_98 ?_
                refine lv_aload_n C.1 C.2.1 dX11_becomesSound_99 rfl (lv_at hl 2 rfl) ?_
                refine lv_iload_n C.1 C.2.1 dX11_becomesSound_100 rfl (lv_at hl 3 rfl) ?_
                refine zd_iconst C dX11_becomesSound_101 ?_
                obtain ⟨o20, hF⟩ := hF
                refine zgoi (zrunV (As := [.int (zI (a)), .int (zI (2))]) (rest := [.int (zI (6 * a)), .ref (bs + (i + 16))]) C hE hH hS hl.1 (c_X11_ofBlock (l := l) hM (a) ha (2) (by decide) o20) k_RX11_258 ⟨Nat.le_of_ble_eq_true rfl, Nat.le_of_ble_eq_true rfl⟩ (zM_n0 hM) (zM_k0 hM) rfl rfl rfl (Nat.le_of_ble_eq_true rfl) dX11_becomesSound_102 ⟨Nat.zero_le _, Nat.zero_le _⟩) hS (fun rq Xq Yq Rq H locs hrq hq hH hS => ?_)
                obtain ⟨h91, h92⟩ := hq
                have h93 : Xq = X17 := congrArg (fun z => z.1) h92
                have h94 : Yq = Y := congrArg (fun z => z.2.1) h92
                have h95 : Rq = R := congrArg (fun z => z.2.2) h92
                rw [h93, h94, h95] at hH
                subst h91
                have hr21 := hrq
                have hF := hF hr21
                refine zd_iadd C dX11_becomesSound_105 ?_
                refine lv_dup2_11 C.1 C.2.1 dX11_becomesSound_106 rfl rfl ?_
                obtain ⟨o22, hF⟩ := hF
                refine zd_iald C hH (zM_n16 hM) (zM_k16 hM) o22.1 (by rw [zM_l16 hM]; exact o22.2) (by rw [zM_l16 hM]; decide) dX11_becomesSound_107 ?_
                refine lv_aload_n C.1 C.2.1 dX11_becomesSound_108 rfl (lv_at hl 2 rfl) ?_
                refine zd_iconst C dX11_becomesSound_109 ?_
                obtain ⟨o23, hF⟩ := hF
                refine zgoi (zrunV (As := [.int (zI (5))]) (rest := [.int (zI (X17 (i + 16) ((6 * a) + (mC X17 i (a) ((2 : Int)))))), .int (zI ((6 * a) + (mC X17 i (a) ((2 : Int))))), .ref (bs + (i + 16))]) C hE hH hS hl.1 (c_X11_ofNet (l := l) hM (5) (by decide) o23) k_RX11_280 ⟨Nat.le_of_ble_eq_true rfl, Nat.le_of_ble_eq_true rfl⟩ (zM_n0 hM) (zM_k0 hM) rfl rfl rfl (Nat.le_of_ble_eq_true rfl) dX11_becomesSound_110 ⟨Nat.zero_le _, Nat.zero_le _⟩) hS (fun rq Xq Yq Rq H locs hrq hq hH hS => ?_)
                obtain ⟨h91, h92⟩ := hq
                have h93 : Xq = X17 := congrArg (fun z => z.1) h92
                have h94 : Yq = Y := congrArg (fun z => z.2.1) h92
                have h95 : Rq = R := congrArg (fun z => z.2.2) h92
                rw [h93, h94, h95] at hH
                subst h91
                have hr24 := hrq
                have hF := hF hr24
                refine zd_iadd C dX11_becomesSound_113 ?_
                obtain ⟨o25, hF⟩ := hF
                obtain ⟨o26, hF⟩ := hF
                refine zd_iast C hH hS (zM_n16 hM) (zM_k16 hM) o25.1 (by rw [zM_l16 hM]; exact o25.2) (by rw [zM_l16 hM]; decide) o26 dX11_becomesSound_114 (fun H locs hH hS => ?_)
                obtain ⟨X27, eX27⟩ : ∃ z, z = zU X17 (i + 16) ((6 * a) + (mC X17 i (a) ((2 : Int)))) ((X17 (i + 16) ((6 * a) + (mC X17 i (a) ((2 : Int))))) + (mG X17 i ((5 : Int)))) := ⟨_, rfl⟩
                rw [← eX27] at hH
                have hF := hF X27 eX27 hH.2.2.1
                refine zd_iconst C dX11_becomesSound_115 ?_
                exact zd_zret C hr hlk hH hS (by decide) (⟨rfl, rfl, _, rfl, hF⟩) dX11_becomesSound_116
              · have hF := hF.2 c19
                refine zd_iconst C dX11_becomesSound_89 ?_
                exact zd_zret C hr hlk hH hS (by decide) (⟨rfl, rfl, _, rfl, hF⟩) dX11_becomesSound_90
            · have hF := hF.2 c15
              refine lv_aload_n C.1 C.2.1 dX11_becomesSound_53 rfl (lv_at hl 2 rfl) ?_
              refine zg11_34 C hH (zM_n0 hM) (zM_k0 hM) q_1321 (zM_r16 hM) dX11_becomesSound_54 ?_
              refine zd_bipush C (by decide) dX11_becomesSound_57 ?_
              refine lv_iload_n C.1 C.2.1 dX11_becomesSound_59 rfl (lv_at hl 3 rfl) ?_
              refine zd_imul C dX11_becomesSound_60 ?_
              refine lv_iload_n C.1 C.2.1 dX11_becomesSound_61 rfl (lv_at hl 0 rfl) ?_
              refine zd_iadd C dX11_becomesSound_62 ?_
              refine lv_aload_n C.1 C.2.1 dX11_becomesSound_63 rfl (lv_at hl 2 rfl) ?_
              refine zg11_34 C hH (zM_n0 hM) (zM_k0 hM) q_1321 (zM_r16 hM) dX11_becomesSound_64 ?_
              refine zd_bipush C (by decide) dX11_becomesSound_67 ?_
              refine lv_iload_n C.1 C.2.1 dX11_becomesSound_69 rfl (lv_at hl 1 rfl) ?_
              refine zd_imul C dX11_becomesSound_70 ?_
              refine lv_iload_n C.1 C.2.1 dX11_becomesSound_71 rfl (lv_at hl 0 rfl) ?_
              refine zd_iadd C dX11_becomesSound_72 ?_
              obtain ⟨o28, hF⟩ := hF
              refine zd_iald C hH (zM_n16 hM) (zM_k16 hM) o28.1 (by rw [zM_l16 hM]; exact o28.2) (by rw [zM_l16 hM]; decide) dX11_becomesSound_73 ?_
              obtain ⟨o29, hF⟩ := hF
              refine zd_iast C hH hS (zM_n16 hM) (zM_k16 hM) o29.1 (by rw [zM_l16 hM]; exact o29.2) (by rw [zM_l16 hM]; decide) (hH.2.2.1 _ _) dX11_becomesSound_74 (fun H locs hH hS => ?_)
              obtain ⟨X30, eX30⟩ : ∃ z, z = zU X14 (i + 16) ((6 * a) + j) (X14 (i + 16) ((6 * (mPar X i (a))) + j)) := ⟨_, rfl⟩
              rw [← eX30] at hH
              have hF := hF X30 eX30 hH.2.2.1
              refine zd_iinc (k := 0) (lv' := [(3, .int (zI (j + 1))), (2, .int (zI (mPar X i (a)))), (0, .ref (bs + (i))), (1, .int (zI (a)))]) C hl rfl dX11_becomesSound_75 (by decide) rfl (fun ls hl => ?_)
              refine lv_goto (tgt := 47) C.1 C.2.1 dX11_becomesSound_78 (by decide) ?_
              obtain ⟨o31, hF⟩ := hF
              exact ih13 (j + 1) X30 o31 hF.1 (Nat.lt_of_lt_of_le hF.2 (Nat.le_of_lt_succ hmu13)) _ _ _ hH hS (lv_sub hl [0, 1, 2, 3] rfl)
        exact L13 (((6 - ((0 : Int))).toNat) + 1) ((0 : Int)) X (by decide) hI13 (Nat.lt_succ_self _) _ _ _ hH hS (lv_sub hl [0, 1, 2, 3] rfl)
      · have hF := hF.2 c12
        refine zd_iconst C dX11_becomesSound_43 ?_
        exact zd_zret C hr hlk hH hS (by decide) (⟨rfl, rfl, _, rfl, hF⟩) dX11_becomesSound_44
theorem v_X11_becomesSound {X Y : Nat → Int → Int} {R : Nat → Int → Option Nat} {i : Nat} (a : Int) (ha : rI a) (hp : ∃ q : Nat, a = q ∧ bsP X i q) : F_X11_becomesSound i X Y R a := by
  unfold F_X11_becomesSound
  intro hX hY
  obtain ⟨q, rfl, h1, hA, ⟨n, hBs, hqn⟩, hhas, hled⟩ := hp
  have hn14 := hBs.1.2.1
  have hP := rP_par hBs.1
  have hpq := hP q h1 hqn
  have ep : mPar X i q = rP X i q := rP_c hBs.1 h1 hqn
  have es := rS_s hpq
  obtain ⟨hPq, hmk⟩ := hBs.2.2 q h1 hqn
  have hC : oC X i := hBs.1.1
  rw [ep, Int.toNat_natCast]
  have fail : rS X i q = none → (lL X X i q ∧ false = (rS X i q).isSome ∧ ∀ M, rS X i q = some M → lM X i q M) := fun e0 => ⟨⟨fun _ _ => rfl, fun _ _ => rfl⟩, by rw [e0]; rfl, fun M h => by rw [e0] at h; cases h⟩
  refine ⟨⟨hC, by omega, by omega⟩, fun r1 => ⟨fun h => ?_, fun h => ⟨⟨hC, by omega, by omega⟩, fun r2 => ⟨⟨hC, by omega, by omega⟩, fun r3 => ⟨fun ht => ?_, fun ht => ⟨⟨hC, by omega, by omega, by decide, by decide⟩, fun r4 => ⟨hA.1.1, fun hm => ?_, fun hm => ?_⟩⟩⟩⟩⟩⟩⟩
  · apply fail
    rw [hhas] at h
    cases e : rS X i (rP X i q) with
    | none =>
      rw [es, e]
      rfl
    | some L => rw [e] at h; cases h
  · apply fail
    rw [es]
    cases rS X i (rP X i q) with
    | none => rfl
    | some L =>
      show (if decide (mTim X i q < mTim X i (rP X i q)) || _ then none else _) = none
      rw [decide_eq_true ht]
      rfl
  · have hh : (rS X i (rP X i q)).isSome = true := hhas.symm.trans h
    obtain ⟨L, eL⟩ := Option.isSome_iff_exists.mp hh
    have hLl := hled L eL
    have hLb := rS_b hA hBs (rP X i q) (by omega) L eL
    have hm2 := mIn_t.mp hm
    have es2 : rS X i q = match sPay (X i 26) (rF X i q) (rO X i q) (rM X i q) L (mC X i q 3).toNat with | none => none | some M => some (upI M (mC X i q 2) (M (mC X i q 2) + mG X i 5)) := by
      rw [es, eL]
      show (if decide (mTim X i q < mTim X i (rP X i q)) || !mIn (mC X i q 2) 0 (X i 26 - 1) then none else _) = _
      rw [decide_eq_false ht, hm]
      rfl
    refine ⟨⟨0, rfl, by decide, ⟨fun _ _ => rfl, fun _ _ => rfl⟩, fun b b1 b2 => by omega⟩, ?_⟩
    rintro j X14 rj r14 ⟨z, rfl, hz, hl, hrow⟩
    have p0 : X14 i = X i := hl.1 _ (by omega)
    have p7 : X14 (i + 7) = X (i + 7) := hl.1 _ (by omega)
    have p6 : X14 (i + 6) = X (i + 6) := hl.1 _ (by omega)
    have ec : ∀ k w, mC X14 i k w = mC X i k w := mC_off p7 p0
    refine ⟨fun h6 => ?_, fun h6 => ?_⟩
    · have hL14 : eq6 (rL9 X14 i q) L := fun b b1 b2 => by
        show X14 (i + 16) (6 * (q : Int) + b) = L b
        rw [hrow b b1 (by omega)]
        exact hLl b b1 b2
      rw [p0, rF_off p7 p0, rO_off p7 p0, rM_off p7 p0, ec]
      have hP14 : oP X14 i q := by
        unfold oP
        rw [ec, rF_off p7 p0, rO_off p7 p0, rM_off p7 p0]
        exact hPq
      refine ⟨⟨by show 0 ≤ X14 i 25 ∧ X14 i 25 ≤ 1; rw [p0]; exact hC, ⟨by omega, by omega⟩, hA.1, hP14, fun b b1 b2 => by rw [hL14 b b1 b2]; have := hLb b b1 b2; exact ⟨by omega, by omega⟩⟩, ?_⟩
      rintro r18 X17 r17 ⟨hl2, hpr⟩
      have q0 : X17 i = X i := (hl2.1 _ (by omega)).trans p0
      have q7 : X17 (i + 7) = X (i + 7) := (hl2.1 _ (by omega)).trans p7
      have q6 : X17 (i + 6) = X (i + 6) := (hl2.1 _ (by omega)).trans p6
      have hl3 : lL X X17 i q := ⟨fun b hb => (hl2.1 b hb).trans (hl.1 b hb), fun b hb => (hl2.2 b hb).trans (hl.2 b hb)⟩
      rcases sPay_c (pf := rF X i q) (pt := rO X i q) (pm := rM X i q) hA.1.2 hL14 (mC X i q 3).toNat with ⟨e1, e2⟩ | ⟨M', M, e1, e2, e3⟩
      · rw [e1] at hpr
        have e18 : r18 = false := hpr
        have e0 : rS X i q = none := by rw [es2, e2]
        refine ⟨fun h => absurd (e18.symm.trans h) (by decide), fun _ => ⟨hl3, by rw [e0]; rfl, fun M h => by rw [e0] at h; cases h⟩⟩
      · rw [e1] at hpr
        obtain ⟨e18, hM'⟩ := hpr
        have hM : lM X17 i q M := fun b b1 b2 => by rw [hM' b b1 b2, e3 b b1 b2]
        have e0 : rS X i q = some (upI M (mC X i q 2) (M (mC X i q 2) + mG X i 5)) := by rw [es2, e2]
        have hMb := sPay_b hLb _ M (fun j hj => by have := (hPq.2.2 j (by omega)).2.2; exact ⟨by omega, by omega⟩) e2
        refine ⟨fun _ => ?_, fun h => absurd (e18.symm.trans h) (by decide)⟩
        have ec2 : mC X17 i q 2 = mC X i q 2 := mC_off q7 q0 _ _
        have eg : mG X17 i 5 = mG X i 5 := mG_off q6 q0 _
        rw [ec2, eg, hM _ (by omega) (by omega)]
        have hb2 := hMb (mC X i q 2) (by omega) (by omega)
        have hr5 := hA.2.2.1
        refine ⟨⟨by show 0 ≤ X17 i 25 ∧ X17 i 25 ≤ 1; rw [q0]; exact hC, by omega, by omega, by decide, by decide⟩, fun _ => ⟨⟨by omega, by omega⟩, ⟨by show 0 ≤ X17 i 24 ∧ X17 i 24 ≤ 1; rw [q0]; exact hA.2.1, by decide, by decide⟩, fun _ => ⟨⟨by omega, by omega⟩, ⟨by omega, by omega⟩, fun X27 e27 r27 => ⟨⟨fun b hb => by rw [e27, zU_o hb]; exact hl3.1 b hb, fun b hb => by rw [e27, zU_n (by omega)]; exact hl3.2 b hb⟩, by rw [e0]; rfl, fun M2 h2 => ?_⟩⟩⟩⟩
        rw [e0] at h2
        cases h2
        intro b b1 b2
        rw [e27]
        unfold upI
        by_cases e : b = mC X i q 2
        · rw [if_pos e, zU_at (by omega)]
        · rw [if_neg e, zU_n (by omega)]
          exact hM b b1 b2
    · refine ⟨⟨by omega, by omega⟩, ⟨by omega, by omega⟩, fun X30 e30 r30 => ⟨⟨by omega, by omega⟩, ⟨z + 1, by omega, by omega, ⟨fun b hb => by rw [e30, zU_o hb]; exact hl.1 b hb, fun b hb => by rw [e30, zU_n (by omega)]; exact hl.2 b hb⟩, fun b b1 b2 => ?_⟩, by omega⟩⟩
      rw [e30]
      by_cases e : b = z
      · rw [zU_at (by omega), hl.2 _ (by omega), e]
      · rw [zU_n (by omega)]
        exact hrow b b1 (by omega)
  · apply fail
    rw [es]
    cases rS X i (rP X i q) with
    | none => rfl
    | some L =>
      show (if _ || !mIn (mC X i q 2) 0 (X i 26 - 1) then none else _) = none
      rw [hm, Bool.not_false, Bool.or_true]
      rfl
theorem c_X11_becomesSound {l : Launch} {D : va_G} {cy : Nat → ClassId} {bs N : Nat} {sa : Nat → Nat} {kd len : Nat → Nat} {X Y : Nat → Int → Int} {R : Nat → Int → Option Nat} {i : Nat} (hM : zM N kd len R i) (a : Int) (ha : rI a) (hp : ∃ q : Nat, a = q ∧ bsP X i q) : Met l yX11_becomesSound (.code yX11_becomesSound cX11_becomesSound 4 (some .boolean) :: zTB) (zRm 3 68) (zPc D cy bs sa N kd len X Y R [.ref (bs + (i)), .int (zI (a))]) (zQi D cy bs N kd len (fun r st => st.2.1 = Y ∧ st.2.2 = R ∧ ∃ rb : Bool, r = bz rb ∧ (lL X (st.1) i (a) ∧ rb = (rS X i (a).toNat).isSome ∧ ∀ M, rS X i (a).toNat = some M → lM (st.1) i (a) M))) 0 0 (zA bs) := w_X11_becomesSound hM a ha (v_X11_becomesSound a ha hp)
