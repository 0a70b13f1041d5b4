def rF (X : Nat → Int → Int) (i : Nat) (k : Int) (j : Nat) : Int := mC X i k (4 + 3 * j)
def rO (X : Nat → Int → Int) (i : Nat) (k : Int) (j : Nat) : Int := mC X i k (5 + 3 * j)
def rM (X : Nat → Int → Int) (i : Nat) (k : Int) (j : Nat) : Int := mC X i k (6 + 3 * j)
def rL9 (X : Nat → Int → Int) (i : Nat) (k : Int) : Int → Int := fun a => X (i + 16) (6 * k + a)
abbrev oP (X : Nat → Int → Int) (i : Nat) (k : Int) : Prop := 0 ≤ mC X i k 3 ∧ mC X i k 3 ≤ 3 ∧ ∀ j : Nat, (j : Int) < mC X i k 3 → (0 ≤ rF X i k j ∧ rF X i k j ≤ 5) ∧ (0 ≤ rO X i k j ∧ rO X i k j ≤ 5) ∧ (1 ≤ rM X i k j ∧ rM X i k j ≤ 99)
abbrev in6 (L : Int → Int) (B : Int) : Prop := ∀ a, 0 ≤ a → a < 6 → 0 ≤ L a ∧ L a ≤ B
theorem sPay_b {acc B : Int} {pf pt pm : Nat → Int} {L : Int → Int} (hL : in6 L B) : ∀ (n : Nat) (M : Int → Int), (∀ j, j < n → 0 ≤ pm j ∧ pm j ≤ 99) → sPay acc pf pt pm L n = some M → in6 M (B + 99 * n)
  | 0, M, _, h => by
    cases h
    intro a h1 h2
    have := hL a h1 h2
    exact ⟨by omega, by omega⟩
  | n + 1, M, hp, h => by
    unfold sPay at h
    cases e : sPay acc pf pt pm L n with
    | none => rw [e] at h; cases h
    | some M0 =>
      rw [e] at h
      have ih := sPay_b hL n M0 (fun j hj => hp j (by omega)) e
      have hm := hp n (by omega)
      dsimp only at h
      split at h
      · rename_i hc
        cases h
        simp only [Bool.and_eq_true, decide_eq_true_eq] at hc
        intro a h1 h2
        have hi := ih a h1 h2
        unfold upI
        by_cases e1 : a = pt n
        · rw [if_pos e1]
          rw [e1] at hi h1 h2
          by_cases e2 : pt n = pf n
          · rw [if_pos e2, ← e2]
            rw [← e2] at hc
            exact ⟨by omega, by omega⟩
          · rw [if_neg e2]
            exact ⟨by omega, by omega⟩
        · rw [if_neg e1]
          by_cases e2 : a = pf n
          · rw [if_pos e2, ← e2]
            rw [← e2] at hc
            exact ⟨by omega, by omega⟩
          · rw [if_neg e2]
            exact ⟨by omega, by omega⟩
      · cases h
/-- the ledger's row k holds M, all else as it was -/
def lL (X X1 : Nat → Int → Int) (i : Nat) (k : Int) : Prop := (∀ a, a ≠ i + 16 → X1 a = X a) ∧ ∀ b, b < 6 * k ∨ 6 * k + 6 ≤ b → X1 (i + 16) b = X (i + 16) b
def lM (X1 : Nat → Int → Int) (i : Nat) (k : Int) (M : Int → Int) : Prop := ∀ a, 0 ≤ a → a < 6 → X1 (i + 16) (6 * k + a) = M a
def pR (o : Option (Int → Int)) (r : Bool) (X1 : Nat → Int → Int) (i : Nat) (k : Int) : Prop := match o with
  | none => r = false
  | some M => r = true ∧ lM X1 i k M
theorem sPay_s {acc : Int} {pf pt pm : Nat → Int} {L M : Int → Int} {n : Nat} (h : sPay acc pf pt pm L n = some M) : sPay acc pf pt pm L (n + 1) = if mIn (pf n) 0 (acc - 1) && mIn (pt n) 0 (acc - 1) && decide (pm n ≤ M (pf n)) then some (upI (upI M (pf n) (M (pf n) - pm n)) (pt n) (upI M (pf n) (M (pf n) - pm n) (pt n) + pm n)) else none := by
  show (match sPay acc pf pt pm L n with | none => none | some M => _) = _
  rw [h]
theorem mIn_t {a b g : Int} : mIn a b g = true ↔ b ≤ a ∧ a ≤ g := by
  unfold mIn
  exact decide_eq_true_iff
theorem mIn_f {a b g : Int} : mIn a b g = false ↔ ¬ (b ≤ a ∧ a ≤ g) := by
  unfold mIn
  exact decide_eq_false_iff_not
theorem zU_at {X : Nat → Int → Int} {i : Nat} {k v b : Int} (h : b = k) : zU X i k v i b = v := by
  rw [h]
  exact zU_s
abbrev cX11_pays : ByteArray := prog_13_method_48_code
def yX11_pays : MethodName := ⟨RX11, "pays", "(I)Z"⟩
theorem dX11_pays_0 : decode cX11_pays 0 = .ok (.iconst 0, 1) := by decide +kernel
theorem dX11_pays_1 : decode cX11_pays 1 = .ok (.istore_n 2, 1) := by decide +kernel
theorem dX11_pays_2 : decode cX11_pays 2 = .ok (.iload_n 2, 1) := by decide +kernel
theorem dX11_pays_3 : decode cX11_pays 3 = .ok (.aload_n 0, 1) := by decide +kernel
theorem dX11_pays_4 : decode cX11_pays 4 = .ok (.iload_n 1, 1) := by decide +kernel
theorem dX11_pays_5 : decode cX11_pays 5 = .ok (.iconst 3, 1) := by decide +kernel
theorem dX11_pays_6 : decode cX11_pays 6 = .ok (.invokevirtual 258, 3) := by decide +kernel
theorem dX11_pays_9 : decode cX11_pays 9 = .ok (.if_icmp .ge 113, 3) := by decide +kernel
theorem dX11_pays_12 : decode cX11_pays 12 = .ok (.aload_n 0, 1) := by decide +kernel
theorem dX11_pays_13 : decode cX11_pays 13 = .ok (.iload_n 1, 1) := by decide +kernel
theorem dX11_pays_14 : decode cX11_pays 14 = .ok (.iconst 4, 1) := by decide +kernel
theorem dX11_pays_15 : decode cX11_pays 15 = .ok (.iconst 3, 1) := by decide +kernel
theorem dX11_pays_16 : decode cX11_pays 16 = .ok (.iload_n 2, 1) := by decide +kernel
theorem dX11_pays_17 : decode cX11_pays 17 = .ok (.imul, 1) := by decide +kernel
theorem dX11_pays_18 : decode cX11_pays 18 = .ok (.iadd, 1) := by decide +kernel
theorem dX11_pays_19 : decode cX11_pays 19 = .ok (.invokevirtual 258, 3) := by decide +kernel
theorem dX11_pays_22 : decode cX11_pays 22 = .ok (.istore_n 3, 1) := by decide +kernel
theorem dX11_pays_23 : decode cX11_pays 23 = .ok (.aload_n 0, 1) := by decide +kernel
theorem dX11_pays_24 : decode cX11_pays 24 = .ok (.iload_n 1, 1) := by decide +kernel
theorem dX11_pays_25 : decode cX11_pays 25 = .ok (.iconst 5, 1) := by decide +kernel
theorem dX11_pays_26 : decode cX11_pays 26 = .ok (.iconst 3, 1) := by decide +kernel
theorem dX11_pays_27 : decode cX11_pays 27 = .ok (.iload_n 2, 1) := by decide +kernel
theorem dX11_pays_28 : decode cX11_pays 28 = .ok (.imul, 1) := by decide +kernel
theorem dX11_pays_29 : decode cX11_pays 29 = .ok (.iadd, 1) := by decide +kernel
theorem dX11_pays_30 : decode cX11_pays 30 = .ok (.invokevirtual 258, 3) := by decide +kernel
theorem dX11_pays_33 : decode cX11_pays 33 = .ok (.istore 4, 2) := by decide +kernel
theorem dX11_pays_35 : decode cX11_pays 35 = .ok (.aload_n 0, 1) := by decide +kernel
theorem dX11_pays_36 : decode cX11_pays 36 = .ok (.iload_n 1, 1) := by decide +kernel
theorem dX11_pays_37 : decode cX11_pays 37 = .ok (.bipush 6, 2) := by decide +kernel
theorem dX11_pays_39 : decode cX11_pays 39 = .ok (.iconst 3, 1) := by decide +kernel
theorem dX11_pays_40 : decode cX11_pays 40 = .ok (.iload_n 2, 1) := by decide +kernel
theorem dX11_pays_41 : decode cX11_pays 41 = .ok (.imul, 1) := by decide +kernel
theorem dX11_pays_42 : decode cX11_pays 42 = .ok (.iadd, 1) := by decide +kernel
theorem dX11_pays_43 : decode cX11_pays 43 = .ok (.invokevirtual 258, 3) := by decide +kernel
theorem dX11_pays_46 : decode cX11_pays 46 = .ok (.istore 5, 2) := by decide +kernel
theorem dX11_pays_48 : decode cX11_pays 48 = .ok (.aload_n 0, 1) := by decide +kernel
theorem dX11_pays_49 : decode cX11_pays 49 = .ok (.iload_n 3, 1) := by decide +kernel
theorem dX11_pays_50 : decode cX11_pays 50 = .ok (.invokevirtual 289, 3) := by decide +kernel
theorem dX11_pays_53 : decode cX11_pays 53 = .ok (.ifCond .eq 28, 3) := by decide +kernel
theorem dX11_pays_56 : decode cX11_pays 56 = .ok (.aload_n 0, 1) := by decide +kernel
theorem dX11_pays_57 : decode cX11_pays 57 = .ok (.iload 4, 2) := by decide +kernel
theorem dX11_pays_59 : decode cX11_pays 59 = .ok (.invokevirtual 289, 3) := by decide +kernel
theorem dX11_pays_62 : decode cX11_pays 62 = .ok (.ifCond .eq 19, 3) := by decide +kernel
theorem dX11_pays_65 : decode cX11_pays 65 = .ok (.aload_n 0, 1) := by decide +kernel
theorem dX11_pays_66 : decode cX11_pays 66 = .ok (.getfield 57, 3) := by decide +kernel
theorem dX11_pays_69 : decode cX11_pays 69 = .ok (.bipush 6, 2) := by decide +kernel
theorem dX11_pays_71 : decode cX11_pays 71 = .ok (.iload_n 1, 1) := by decide +kernel
theorem dX11_pays_72 : decode cX11_pays 72 = .ok (.imul, 1) := by decide +kernel
theorem dX11_pays_73 : decode cX11_pays 73 = .ok (.iload_n 3, 1) := by decide +kernel
theorem dX11_pays_74 : decode cX11_pays 74 = .ok (.iadd, 1) := by decide +kernel
theorem dX11_pays_75 : decode cX11_pays 75 = .ok (.iaload, 1) := by decide +kernel
theorem dX11_pays_76 : decode cX11_pays 76 = .ok (.iload 5, 2) := by decide +kernel
theorem dX11_pays_78 : decode cX11_pays 78 = .ok (.if_icmp .ge 5, 3) := by decide +kernel
theorem dX11_pays_81 : decode cX11_pays 81 = .ok (.iconst 0, 1) := by decide +kernel
theorem dX11_pays_82 : decode cX11_pays 82 = .ok (.ireturn, 1) := by decide +kernel
theorem dX11_pays_83 : decode cX11_pays 83 = .ok (.aload_n 0, 1) := by decide +kernel
theorem dX11_pays_84 : decode cX11_pays 84 = .ok (.getfield 57, 3) := by decide +kernel
theorem dX11_pays_87 : decode cX11_pays 87 = .ok (.bipush 6, 2) := by decide +kernel
theorem dX11_pays_89 : decode cX11_pays 89 = .ok (.iload_n 1, 1) := by decide +kernel
theorem dX11_pays_90 : decode cX11_pays 90 = .ok (.imul, 1) := by decide +kernel
theorem dX11_pays_91 : decode cX11_pays 91 = .ok (.iload_n 3, 1) := by decide +kernel
theorem dX11_pays_92 : decode cX11_pays 92 = .ok (.iadd, 1) := by decide +kernel
theorem dX11_pays_93 : decode cX11_pays 93 = .ok (.dup2, 1) := by decide +kernel
theorem dX11_pays_94 : decode cX11_pays 94 = .ok (.iaload, 1) := by decide +kernel
theorem dX11_pays_95 : decode cX11_pays 95 = .ok (.iload 5, 2) := by decide +kernel
theorem dX11_pays_97 : decode cX11_pays 97 = .ok (.isub, 1) := by decide +kernel
theorem dX11_pays_98 : decode cX11_pays 98 = .ok (.iastore, 1) := by decide +kernel
theorem dX11_pays_99 : decode cX11_pays 99 = .ok (.aload_n 0, 1) := by decide +kernel
theorem dX11_pays_100 : decode cX11_pays 100 = .ok (.getfield 57, 3) := by decide +kernel
theorem dX11_pays_103 : decode cX11_pays 103 = .ok (.bipush 6, 2) := by decide +kernel
theorem dX11_pays_105 : decode cX11_pays 105 = .ok (.iload_n 1, 1) := by decide +kernel
theorem dX11_pays_106 : decode cX11_pays 106 = .ok (.imul, 1) := by decide +kernel
theorem dX11_pays_107 : decode cX11_pays 107 = .ok (.iload 4, 2) := by decide +kernel
theorem dX11_pays_109 : decode cX11_pays 109 = .ok (.iadd, 1) := by decide +kernel
theorem dX11_pays_110 : decode cX11_pays 110 = .ok (.dup2, 1) := by decide +kernel
theorem dX11_pays_111 : decode cX11_pays 111 = .ok (.iaload, 1) := by decide +kernel
theorem dX11_pays_112 : decode cX11_pays 112 = .ok (.iload 5, 2) := by decide +kernel
theorem dX11_pays_114 : decode cX11_pays 114 = .ok (.iadd, 1) := by decide +kernel
theorem dX11_pays_115 : decode cX11_pays 115 = .ok (.iastore, 1) := by decide +kernel
theorem dX11_pays_116 : decode cX11_pays 116 = .ok (.iinc 2 1, 3) := by decide +kernel
theorem dX11_pays_119 : decode cX11_pays 119 = .ok (.goto (-117), 3) := by decide +kernel
theorem dX11_pays_122 : decode cX11_pays 122 = .ok (.iconst 1, 1) := by decide +kernel
theorem dX11_pays_123 : decode cX11_pays 123 = .ok (.ireturn, 1) := by decide +kernel
theorem q_1704 : Cond.methodLink RX11 289 yX11_isAccount ∈ zTB := zmem 1704 (by decide +kernel) rfl
theorem q_1706 : Cond.instanceMethod yX11_isAccount ∈ zTB := zmem 1706 (by decide +kernel) rfl
theorem q_73 : Cond.selects RX11 yX11_isAccount yX11_isAccount ∈ zTB := zmem 73 (by decide +kernel) rfl
theorem q_1707 : Cond.code yX11_isAccount cX11_isAccount 2 (some .boolean) ∈ zTB := zmem 1707 (by decide +kernel) rfl
theorem k_RX11_289 : zLv RX11 289 RX11 yX11_isAccount cX11_isAccount 2 (some .boolean) 1 := ⟨⟨q_1704, q_1706, q_73, q_140, q_1707⟩, rfl, ⟨by decide, by decide⟩, by decide +kernel⟩
theorem q_1321 : Cond.fieldLink RX11 57 RX11 "ledger" "[I" ∈ zTB := zmem 1321 (by decide +kernel) rfl
def F_X11_pays (i : Nat) (X Y : Nat → Int → Int) (R : Nat → Int → Option Nat) (a : Int) : Prop := (∀ i j, rI (X i j)) → (∀ i j, rL (Y i j)) → (∃ q : Nat, (0 : Int) = q ∧ (0 : Int) ≤ mC X i a 3 ∧ lL X X i a ∧ ∃ M, sPay (X i 26) (rF X i a) (rO X i a) (rM X i a) (rL9 X i a) q = some M ∧ lM X i a M) ∧ (∀ (j : Int) (X2 : Nat → Int → Int), rI j → (∀ i j, rI (X2 i j)) → (∃ q : Nat, j = q ∧ j ≤ mC X i a 3 ∧ lL X X2 i a ∧ ∃ M, sPay (X i 26) (rF X i a) (rO X i a) (rM X i a) (rL9 X i a) q = some M ∧ lM X2 i a M) → ((oC X2 i ∧ 1 ≤ a ∧ a ≤ 14 ∧ 0 ≤ (3 : Int) ∧ (3 : Int) ≤ 12) ∧ (rI (mC X2 i (a) ((3 : Int))) → ((((mC X2 i (a) ((3 : Int))) ≤ j) → (lL X (X2) i (a) ∧ pR (sPay (X i 26) (rF X i (a)) (rO X i (a)) (rM X i (a)) (rL9 X i (a)) (mC X i (a) 3).toNat) true (X2) i (a))) ∧ ((¬ ((mC X2 i (a) ((3 : Int))) ≤ j)) → ((rI (4 + (3 * j))) ∧ ((oC X2 i ∧ 1 ≤ a ∧ a ≤ 14 ∧ 0 ≤ 4 + (3 * j) ∧ 4 + (3 * j) ≤ 12) ∧ (rI (mC X2 i (a) (4 + (3 * j))) → ((rI (5 + (3 * j))) ∧ ((oC X2 i ∧ 1 ≤ a ∧ a ≤ 14 ∧ 0 ≤ 5 + (3 * j) ∧ 5 + (3 * j) ≤ 12) ∧ (rI (mC X2 i (a) (5 + (3 * j))) → ((rI (6 + (3 * j))) ∧ ((oC X2 i ∧ 1 ≤ a ∧ a ≤ 14 ∧ 0 ≤ 6 + (3 * j) ∧ 6 + (3 * j) ≤ 12) ∧ (rI (mC X2 i (a) (6 + (3 * j))) → ((0 ≤ X2 i 26) ∧ ((((mIn (mC X2 i (a) (4 + (3 * j))) 0 (X2 i 26 - 1)) = false) → (lL X (X2) i (a) ∧ pR (sPay (X i 26) (rF X i (a)) (rO X i (a)) (rM X i (a)) (rL9 X i (a)) (mC X i (a) 3).toNat) false (X2) i (a))) ∧ (((mIn (mC X2 i (a) (4 + (3 * j))) 0 (X2 i 26 - 1)) = true) → ((0 ≤ X2 i 26) ∧ ((((mIn (mC X2 i (a) (5 + (3 * j))) 0 (X2 i 26 - 1)) = false) → (lL X (X2) i (a) ∧ pR (sPay (X i 26) (rF X i (a)) (rO X i (a)) (rM X i (a)) (rL9 X i (a)) (mC X i (a) 3).toNat) false (X2) i (a))) ∧ (((mIn (mC X2 i (a) (5 + (3 * j))) 0 (X2 i 26 - 1)) = true) → ((0 ≤ ((6 * a) + (mC X2 i (a) (4 + (3 * j)))) ∧ ((6 * a) + (mC X2 i (a) (4 + (3 * j)))) < 90) ∧ ((((mC X2 i (a) (6 + (3 * j))) ≤ (X2 (i + 16) ((6 * a) + (mC X2 i (a) (4 + (3 * j)))))) → ((0 ≤ ((6 * a) + (mC X2 i (a) (4 + (3 * j)))) ∧ ((6 * a) + (mC X2 i (a) (4 + (3 * j)))) < 90) ∧ ((0 ≤ ((6 * a) + (mC X2 i (a) (4 + (3 * j)))) ∧ ((6 * a) + (mC X2 i (a) (4 + (3 * j)))) < 90) ∧ ((rI ((X2 (i + 16) ((6 * a) + (mC X2 i (a) (4 + (3 * j))))) - (mC X2 i (a) (6 + (3 * j))))) ∧ (∀ X24 : Nat → Int → Int, X24 = zU X2 (i + 16) ((6 * a) + (mC X2 i (a) (4 + (3 * j)))) ((X2 (i + 16) ((6 * a) + (mC X2 i (a) (4 + (3 * j))))) - (mC X2 i (a) (6 + (3 * j)))) → (∀ i j, rI (X24 i j)) → ((0 ≤ ((6 * a) + (mC X2 i (a) (5 + (3 * j)))) ∧ ((6 * a) + (mC X2 i (a) (5 + (3 * j)))) < 90) ∧ ((0 ≤ ((6 * a) + (mC X2 i (a) (5 + (3 * j)))) ∧ ((6 * a) + (mC X2 i (a) (5 + (3 * j)))) < 90) ∧ ((rI ((X24 (i + 16) ((6 * a) + (mC X2 i (a) (5 + (3 * j))))) + (mC X2 i (a) (6 + (3 * j))))) ∧ (∀ X28 : Nat → Int → Int, X28 = zU X24 (i + 16) ((6 * a) + (mC X2 i (a) (5 + (3 * j)))) ((X24 (i + 16) ((6 * a) + (mC X2 i (a) (5 + (3 * j))))) + (mC X2 i (a) (6 + (3 * j)))) → (∀ i j, rI (X28 i j)) → ((rI (j + 1)) ∧ (∃ q : Nat, j + 1 = q ∧ j + 1 ≤ mC X i a 3 ∧ lL X X28 i a ∧ ∃ M, sPay (X i 26) (rF X i a) (rO X i a) (rM X i a) (rL9 X i a) q = some M ∧ lM X28 i a M) ∧ (((mC X i a 3 - (j + 1)).toNat) < ((mC X i a 3 - (j)).toNat)))))))))))) ∧ ((¬ ((mC X2 i (a) (6 + (3 * j))) ≤ (X2 (i + 16) ((6 * a) + (mC X2 i (a) (4 + (3 * j))))))) → (lL X (X2) i (a) ∧ pR (sPay (X i 26) (rF X i (a)) (rO X i (a)) (rM X i (a)) (rL9 X i (a)) (mC X i (a) 3).toNat) false (X2) i (a)))))))))))))))))))))))))
set_option maxHeartbeats 4000000 in
set_option maxRecDepth 100000 in
theorem w_X11_pays {l : Launch} {D : va_G} {cy : Nat → ClassId} {bs N : Nat} {sa : Nat → Nat} {kd len : Nat → Nat} {X Y : Nat → Int → Int} {R : Nat → Int → Option Nat} {i : Nat} (hM : zM N kd len R i) (a : Int) (ha : rI a) (hF : F_X11_pays i X Y R a) : Met l yX11_pays (.code yX11_pays cX11_pays 6 (some .boolean) :: zTB) (zRm 2 43) (zPc D cy bs sa N kd len X Y R [.ref (bs + (i)), .int (zI (a))]) (zQi D cy bs N kd len (fun r st => st.2.1 = Y ∧ st.2.2 = R ∧ ∃ rb : Bool, r = bz rb ∧ (lL X (st.1) i (a) ∧ pR (sPay (X i 26) (rF X i (a)) (rO X i (a)) (rM X i (a)) (rL9 X i (a)) (mC X i (a) 3).toNat) rb (st.1) i (a)))) 0 0 (zA bs) := by
  refine zstart (by decide) (Nat.le_of_ble_eq_true rfl) ?_
  intro p e s m args below meth c ls C hE hH hr hlk hnm hl hargs
  have hF := hF hH.2.2.1 hH.2.2.2
  have hS : va_S (zA bs) s.heap s.heap [] := va_S.rf
  have hl : lv_has ls 6 [(0, .ref (bs + (i))), (1, .int (zI (a)))] := hl
  refine zd_iconst C dX11_pays_0 ?_
  refine lv_istore_n (lv' := [(2, .int (zI (0))), (0, .ref (bs + (i))), (1, .int (zI (a)))]) C.1 C.2.1 dX11_pays_1 rfl hl (by decide) rfl (fun ls hl => ?_)
  obtain ⟨hI1, hF⟩ := hF
  have L1 : ∀ (fu : Nat) (j : Int) (X2 : Nat → Int → Int), rI j → (∃ q : Nat, j = q ∧ j ≤ mC X i a 3 ∧ lL X X2 i a ∧ ∃ M, sPay (X i 26) (rF X i a) (rO X i a) (rM X i a) (rL9 X i a) q = some M ∧ lM X2 i a M) → ((mC X i a 3 - (j)).toNat) < fu → ∀ (H : Heap) (locs : List Loc) (ls : Array Slot), zH D cy bs N kd len X2 Y R H → va_S (zA bs) s.heap H locs → lv_has ls 6 [(2, .int (zI (j))), (0, .ref (bs + (i))), (1, .int (zI (a)))] → W p l e (zRm 2 43) s m args below meth c H locs 0 0 (MQ below (zQi D cy bs N kd len (fun r st => st.2.1 = Y ∧ st.2.2 = R ∧ ∃ rb : Bool, r = bz rb ∧ (lL X (st.1) i (a) ∧ pR (sPay (X i 26) (rF X i (a)) (rO X i (a)) (rM X i (a)) (rL9 X i (a)) (mC X i (a) 3).toNat) rb (st.1) i (a)))) args s 0 0 (zA bs)) (F0 m 2 ls []) := by
    intro fu
    induction fu with
    | zero => intro j X2 _ _ hmu; exact absurd hmu (Nat.not_lt_zero _)
    | succ fu ih1 =>
      intro j X2 hj hI hmu1 H locs ls hH hS hl
      have hF := hF j X2 hj hH.2.2.1 hI
      refine lv_iload_n C.1 C.2.1 dX11_pays_2 rfl (lv_at hl 0 rfl) ?_
      refine lv_aload_n C.1 C.2.1 dX11_pays_3 rfl (lv_at hl 1 rfl) ?_
      refine lv_iload_n C.1 C.2.1 dX11_pays_4 rfl (lv_at hl 2 rfl) ?_
      refine zd_iconst C dX11_pays_5 ?_
      obtain ⟨o3, hF⟩ := hF
      refine zgoi (zrunV (As := [.int (zI (a)), .int (zI (3))]) (rest := [.int (zI (j))]) C hE hH hS hl.1 (c_X11_ofBlock (l := l) hM (a) ha (3) (by decide) o3) k_RX11_258 ⟨Nat.le_of_ble_eq_true rfl, Nat.le_of_ble_eq_true rfl⟩ (zM_n0 hM) (zM_k0 hM) rfl rfl rfl (Nat.le_of_ble_eq_true rfl) dX11_pays_6 ⟨Nat.zero_le _, Nat.zero_le _⟩) hS (fun rq Xq Yq Rq H locs hrq hq hH hS => ?_)
      obtain ⟨h91, h92⟩ := hq
      have h93 : Xq = X2 := congrArg (fun z => z.1) h92
      have h94 : Yq = Y := congrArg (fun z => z.2.1) h92
      have h95 : Rq = R := congrArg (fun z => z.2.2) h92
      rw [h93, h94, h95] at hH
      subst h91
      have hr4 := hrq
      have hF := hF hr4
      refine zd_icmp_ge C hj hr4 122 dX11_pays_9 (by decide) (fun c5 => ?_) (fun c5 => ?_)
      · have hF := hF.1 c5
        refine zd_iconst C dX11_pays_122 ?_
        exact zd_zret C hr hlk hH hS (by decide) (⟨rfl, rfl, _, rfl, hF⟩) dX11_pays_123
      · have hF := hF.2 c5
        refine lv_aload_n C.1 C.2.1 dX11_pays_12 rfl (lv_at hl 1 rfl) ?_
        refine lv_iload_n C.1 C.2.1 dX11_pays_13 rfl (lv_at hl 2 rfl) ?_
        refine zd_iconst C dX11_pays_14 ?_
        refine zd_iconst C dX11_pays_15 ?_
        refine lv_iload_n C.1 C.2.1 dX11_pays_16 rfl (lv_at hl 0 rfl) ?_
        refine zd_imul C dX11_pays_17 ?_
        refine zd_iadd C dX11_pays_18 ?_
        obtain ⟨o6, hF⟩ := hF
        obtain ⟨o7, hF⟩ := hF
        refine zgoi (zrunV (As := [.int (zI (a)), .int (zI (4 + (3 * j)))]) (rest := []) C hE hH hS hl.1 (c_X11_ofBlock (l := l) hM (a) ha (4 + (3 * j)) o6 o7) k_RX11_258 ⟨Nat.le_of_ble_eq_true rfl, Nat.le_of_ble_eq_true rfl⟩ (zM_n0 hM) (zM_k0 hM) rfl rfl rfl (Nat.le_of_ble_eq_true rfl) dX11_pays_19 ⟨Nat.zero_le _, Nat.zero_le _⟩) hS (fun rq Xq Yq Rq H locs hrq hq hH hS => ?_)
        obtain ⟨h91, h92⟩ := hq
        have h93 : Xq = X2 := congrArg (fun z => z.1) h92
        have h94 : Yq = Y := congrArg (fun z => z.2.1) h92
        have h95 : Rq = R := congrArg (fun z => z.2.2) h92
        rw [h93, h94, h95] at hH
        subst h91
        have hr8 := hrq
        have hF := hF hr8
        refine lv_istore_n (lv' := [(3, .int (zI (mC X2 i (a) (4 + (3 * j))))), (2, .int (zI (j))), (0, .ref (bs + (i))), (1, .int (zI (a)))]) C.1 C.2.1 dX11_pays_22 rfl hl (by decide) rfl (fun ls hl => ?_)
        refine lv_aload_n C.1 C.2.1 dX11_pays_23 rfl (lv_at hl 2 rfl) ?_
        refine lv_iload_n C.1 C.2.1 dX11_pays_24 rfl (lv_at hl 3 rfl) ?_
        refine zd_iconst C dX11_pays_25 ?_
        refine zd_iconst C dX11_pays_26 ?_
        refine lv_iload_n C.1 C.2.1 dX11_pays_27 rfl (lv_at hl 1 rfl) ?_
        refine zd_imul C dX11_pays_28 ?_
        refine zd_iadd C dX11_pays_29 ?_
        obtain ⟨o9, hF⟩ := hF
        obtain ⟨o10, hF⟩ := hF
        refine zgoi (zrunV (As := [.int (zI (a)), .int (zI (5 + (3 * j)))]) (rest := []) C hE hH hS hl.1 (c_X11_ofBlock (l := l) hM (a) ha (5 + (3 * j)) o9 o10) k_RX11_258 ⟨Nat.le_of_ble_eq_true rfl, Nat.le_of_ble_eq_true rfl⟩ (zM_n0 hM) (zM_k0 hM) rfl rfl rfl (Nat.le_of_ble_eq_true rfl) dX11_pays_30 ⟨Nat.zero_le _, Nat.zero_le _⟩) hS (fun rq Xq Yq Rq H locs hrq hq hH hS => ?_)
        obtain ⟨h91, h92⟩ := hq
        have h93 : Xq = X2 := congrArg (fun z => z.1) h92
        have h94 : Yq = Y := congrArg (fun z => z.2.1) h92
        have h95 : Rq = R := congrArg (fun z => z.2.2) h92
        rw [h93, h94, h95] at hH
        subst h91
        have hr11 := hrq
        have hF := hF hr11
        refine lv_istore (lv' := [(4, .int (zI (mC X2 i (a) (5 + (3 * j))))), (3, .int (zI (mC X2 i (a) (4 + (3 * j))))), (2, .int (zI (j))), (0, .ref (bs + (i))), (1, .int (zI (a)))]) C.1 C.2.1 dX11_pays_33 hl (by decide) rfl (fun ls hl => ?_)
        refine lv_aload_n C.1 C.2.1 dX11_pays_35 rfl (lv_at hl 3 rfl) ?_
        refine lv_iload_n C.1 C.2.1 dX11_pays_36 rfl (lv_at hl 4 rfl) ?_
        refine zd_bipush C (by decide) dX11_pays_37 ?_
        refine zd_iconst C dX11_pays_39 ?_
        refine lv_iload_n C.1 C.2.1 dX11_pays_40 rfl (lv_at hl 2 rfl) ?_
        refine zd_imul C dX11_pays_41 ?_
        refine zd_iadd C dX11_pays_42 ?_
        obtain ⟨o12, hF⟩ := hF
        obtain ⟨o13, hF⟩ := hF
        refine zgoi (zrunV (As := [.int (zI (a)), .int (zI (6 + (3 * j)))]) (rest := []) C hE hH hS hl.1 (c_X11_ofBlock (l := l) hM (a) ha (6 + (3 * j)) o12 o13) k_RX11_258 ⟨Nat.le_of_ble_eq_true rfl, Nat.le_of_ble_eq_true rfl⟩ (zM_n0 hM) (zM_k0 hM) rfl rfl rfl (Nat.le_of_ble_eq_true rfl) dX11_pays_43 ⟨Nat.zero_le _, Nat.zero_le _⟩) hS (fun rq Xq Yq Rq H locs hrq hq hH hS => ?_)
        obtain ⟨h91, h92⟩ := hq
        have h93 : Xq = X2 := congrArg (fun z => z.1) h92
        have h94 : Yq = Y := congrArg (fun z => z.2.1) h92
        have h95 : Rq = R := congrArg (fun z => z.2.2) h92
        rw [h93, h94, h95] at hH
        subst h91
        have hr14 := hrq
        have hF := hF hr14
        refine lv_istore (lv' := [(5, .int (zI (mC X2 i (a) (6 + (3 * j))))), (4, .int (zI (mC X2 i (a) (5 + (3 * j))))), (3, .int (zI (mC X2 i (a) (4 + (3 * j))))), (2, .int (zI (j))), (0, .ref (bs + (i))), (1, .int (zI (a)))]) C.1 C.2.1 dX11_pays_46 hl (by decide) rfl (fun ls hl => ?_)
        refine lv_aload_n C.1 C.2.1 dX11_pays_48 rfl (lv_at hl 4 rfl) ?_
        refine lv_iload_n C.1 C.2.1 dX11_pays_49 rfl (lv_at hl 2 rfl) ?_
        obtain ⟨o15, hF⟩ := hF
        refine zgoi (zrunV (As := [.int (zI (mC X2 i (a) (4 + (3 * j))))]) (rest := []) C hE hH hS hl.1 (c_X11_isAccount (l := l) hM (mC X2 i (a) (4 + (3 * j))) hr8 o15) k_RX11_289 ⟨Nat.le_of_ble_eq_true rfl, Nat.le_of_ble_eq_true rfl⟩ (zM_n0 hM) (zM_k0 hM) rfl rfl rfl (Nat.le_of_ble_eq_true rfl) dX11_pays_50 ⟨Nat.zero_le _, Nat.zero_le _⟩) hS (fun rq Xq Yq Rq H locs hrq hq hH hS => ?_)
        obtain ⟨h91, h92⟩ := hq
        have h93 : Xq = X2 := congrArg (fun z => z.1) h92
        have h94 : Yq = Y := congrArg (fun z => z.2.1) h92
        have h95 : Rq = R := congrArg (fun z => z.2.2) h92
        rw [h93, h94, h95] at hH
        subst h91
        refine zd_ifB_eq C 81 dX11_pays_53 (by decide) (fun c16 => ?_) (fun c16 => ?_)
        · have hF := hF.1 c16
          refine zd_iconst C dX11_pays_81 ?_
          exact zd_zret C hr hlk hH hS (by decide) (⟨rfl, rfl, _, rfl, hF⟩) dX11_pays_82
        · have hF := hF.2 c16
          refine lv_aload_n C.1 C.2.1 dX11_pays_56 rfl (lv_at hl 4 rfl) ?_
          refine lv_iload C.1 C.2.1 dX11_pays_57 (lv_at hl 1 rfl) ?_
          obtain ⟨o17, hF⟩ := hF
          refine zgoi (zrunV (As := [.int (zI (mC X2 i (a) (5 + (3 * j))))]) (rest := []) C hE hH hS hl.1 (c_X11_isAccount (l := l) hM (mC X2 i (a) (5 + (3 * j))) hr11 o17) k_RX11_289 ⟨Nat.le_of_ble_eq_true rfl, Nat.le_of_ble_eq_true rfl⟩ (zM_n0 hM) (zM_k0 hM) rfl rfl rfl (Nat.le_of_ble_eq_true rfl) dX11_pays_59 ⟨Nat.zero_le _, Nat.zero_le _⟩) hS (fun rq Xq Yq Rq H locs hrq hq hH hS => ?_)
          obtain ⟨h91, h92⟩ := hq
          have h93 : Xq = X2 := congrArg (fun z => z.1) h92
          have h94 : Yq = Y := congrArg (fun z => z.2.1) h92
          have h95 : Rq = R := congrArg (fun z => z.2.2) h92
          rw [h93, h94, h95] at hH
          subst h91
          refine zd_ifB_eq C 81 dX11_pays_62 (by decide) (fun c18 => ?_) (fun c18 => ?_)
          · have hF := hF.1 c18
            refine zd_iconst C dX11_pays_81 ?_
            exact zd_zret C hr hlk hH hS (by decide) (⟨rfl, rfl, _, rfl, hF⟩) dX11_pays_82
          · have hF := hF.2 c18
            refine lv_aload_n C.1 C.2.1 dX11_pays_65 rfl (lv_at hl 4 rfl) ?_
            refine zg11_34 C hH (zM_n0 hM) (zM_k0 hM) q_1321 (zM_r16 hM) dX11_pays_66 ?_
            refine zd_bipush C (by decide) dX11_pays_69 ?_
            refine lv_iload_n C.1 C.2.1 dX11_pays_71 rfl (lv_at hl 5 rfl) ?_
            refine zd_imul C dX11_pays_72 ?_
            refine lv_iload_n C.1 C.2.1 dX11_pays_73 rfl (lv_at hl 2 rfl) ?_
            refine zd_iadd C dX11_pays_74 ?_
            obtain ⟨o19, hF⟩ := hF
            refine zd_iald C hH (zM_n16 hM) (zM_k16 hM) o19.1 (by rw [zM_l16 hM]; exact o19.2) (by rw [zM_l16 hM]; decide) dX11_pays_75 ?_
            refine lv_iload C.1 C.2.1 dX11_pays_76 (lv_at hl 0 rfl) ?_
            refine zd_icmp_ge C (hH.2.2.1 _ _) hr14 83 dX11_pays_78 (by decide) (fun c20 => ?_) (fun c20 => ?_)
            · have hF := hF.1 c20
              refine lv_aload_n C.1 C.2.1 dX11_pays_83 rfl (lv_at hl 4 rfl) ?_
              refine zg11_34 C hH (zM_n0 hM) (zM_k0 hM) q_1321 (zM_r16 hM) dX11_pays_84 ?_
              refine zd_bipush C (by decide) dX11_pays_87 ?_
              refine lv_iload_n C.1 C.2.1 dX11_pays_89 rfl (lv_at hl 5 rfl) ?_
              refine zd_imul C dX11_pays_90 ?_
              refine lv_iload_n C.1 C.2.1 dX11_pays_91 rfl (lv_at hl 2 rfl) ?_
              refine zd_iadd C dX11_pays_92 ?_
              refine lv_dup2_11 C.1 C.2.1 dX11_pays_93 rfl rfl ?_
              obtain ⟨o21, hF⟩ := hF
              refine zd_iald C hH (zM_n16 hM) (zM_k16 hM) o21.1 (by rw [zM_l16 hM]; exact o21.2) (by rw [zM_l16 hM]; decide) dX11_pays_94 ?_
              refine lv_iload C.1 C.2.1 dX11_pays_95 (lv_at hl 0 rfl) ?_
              refine zd_isub C dX11_pays_97 ?_
              obtain ⟨o22, hF⟩ := hF
              obtain ⟨o23, hF⟩ := hF
              refine zd_iast C hH hS (zM_n16 hM) (zM_k16 hM) o22.1 (by rw [zM_l16 hM]; exact o22.2) (by rw [zM_l16 hM]; decide) o23 dX11_pays_98 (fun H locs hH hS => ?_)
              obtain ⟨X24, eX24⟩ : ∃ z, z = zU X2 (i + 16) ((6 * a) + (mC X2 i (a) (4 + (3 * j)))) ((X2 (i + 16) ((6 * a) + (mC X2 i (a) (4 + (3 * j))))) - (mC X2 i (a) (6 + (3 * j)))) := ⟨_, rfl⟩
              rw [← eX24] at hH
              have hF := hF X24 eX24 hH.2.2.1
              refine lv_aload_n C.1 C.2.1 dX11_pays_99 rfl (lv_at hl 4 rfl) ?_
              refine zg11_34 C hH (zM_n0 hM) (zM_k0 hM) q_1321 (zM_r16 hM) dX11_pays_100 ?_
              refine zd_bipush C (by decide) dX11_pays_103 ?_
              refine lv_iload_n C.1 C.2.1 dX11_pays_105 rfl (lv_at hl 5 rfl) ?_
              refine zd_imul C dX11_pays_106 ?_
              refine lv_iload C.1 C.2.1 dX11_pays_107 (lv_at hl 1 rfl) ?_
              refine zd_iadd C dX11_pays_109 ?_
              refine lv_dup2_11 C.1 C.2.1 dX11_pays_110 rfl rfl ?_
              obtain ⟨o25, hF⟩ := hF
              refine zd_iald C hH (zM_n16 hM) (zM_k16 hM) o25.1 (by rw [zM_l16 hM]; exact o25.2) (by rw [zM_l16 hM]; decide) dX11_pays_111 ?_
              refine lv_iload C.1 C.2.1 dX11_pays_112 (lv_at hl 0 rfl) ?_
              refine zd_iadd C dX11_pays_114 ?_
              obtain ⟨o26, hF⟩ := hF
              obtain ⟨o27, hF⟩ := hF
              refine zd_iast C hH hS (zM_n16 hM) (zM_k16 hM) o26.1 (by rw [zM_l16 hM]; exact o26.2) (by rw [zM_l16 hM]; decide) o27 dX11_pays_115 (fun H locs hH hS => ?_)
              obtain ⟨X28, eX28⟩ : ∃ z, z = zU X24 (i + 16) ((6 * a) + (mC X2 i (a) (5 + (3 * j)))) ((X24 (i + 16) ((6 * a) + (mC X2 i (a) (5 + (3 * j))))) + (mC X2 i (a) (6 + (3 * j)))) := ⟨_, rfl⟩
              rw [← eX28] at hH
              have hF := hF X28 eX28 hH.2.2.1
              refine zd_iinc (k := 3) (lv' := [(2, .int (zI (j + 1))), (5, .int (zI (mC X2 i (a) (6 + (3 * j))))), (4, .int (zI (mC X2 i (a) (5 + (3 * j))))), (3, .int (zI (mC X2 i (a) (4 + (3 * j))))), (0, .ref (bs + (i))), (1, .int (zI (a)))]) C hl rfl dX11_pays_116 (by decide) rfl (fun ls hl => ?_)
              refine lv_goto (tgt := 2) C.1 C.2.1 dX11_pays_119 (by decide) ?_
              obtain ⟨o29, hF⟩ := hF
              exact ih1 (j + 1) X28 o29 hF.1 (Nat.lt_of_lt_of_le hF.2 (Nat.le_of_lt_succ hmu1)) _ _ _ hH hS (lv_sub hl [0, 4, 5] rfl)
            · have hF := hF.2 c20
              refine zd_iconst C dX11_pays_81 ?_
              exact zd_zret C hr hlk hH hS (by decide) (⟨rfl, rfl, _, rfl, hF⟩) dX11_pays_82
  exact L1 (((mC X i a 3 - ((0 : Int))).toNat) + 1) ((0 : Int)) X (by decide) hI1 (Nat.lt_succ_self _) _ _ _ hH hS (lv_sub hl [0, 1, 2] rfl)
theorem v_X11_pays {X Y : Nat → Int → Int} {R : Nat → Int → Option Nat} {i : Nat} (a : Int) (ha : rI a) (hp : oC X i ∧ (1 ≤ a ∧ a ≤ 14) ∧ (0 ≤ X i 26 ∧ X i 26 ≤ 6) ∧ oP X i a ∧ in6 (rL9 X i a) 1000000000) : F_X11_pays i X Y R a := by
  unfold F_X11_pays
  intro hX hY
  obtain ⟨hC, hk, hacc, hP, hL⟩ := hp
  obtain ⟨n, hn⟩ : ∃ n : Nat, mC X i a 3 = n := ⟨(mC X i a 3).toNat, by omega⟩
  unfold oP at hP
  rw [hn] at hP
  rw [hn, Int.toNat_natCast]
  refine ⟨⟨0, rfl, by omega, ⟨fun _ _ => rfl, fun _ _ => rfl⟩, rL9 X i a, rfl, fun b h1 h2 => rfl⟩, ?_⟩
  rintro j X2 rj r2 ⟨q, rfl, hq, hl, M, hM, hLM⟩
  have p0 : X2 i = X i := hl.1 _ (by omega)
  have p7 : X2 (i + 7) = X (i + 7) := hl.1 _ (by omega)
  have ec : ∀ w, mC X2 i a w = mC X i a w := mC_off p7 p0 a
  have hC2 : oC X2 i := by
    show 0 ≤ X2 i 25 ∧ X2 i 25 ≤ 1
    rw [p0]
    exact hC
  simp only [ec, p0, hn]
  refine ⟨⟨hC2, hk.1, hk.2, by decide, by decide⟩, fun r3 => ⟨fun h => ?_, fun h => ?_⟩⟩
  · have e : q = n := by omega
    subst e
    refine ⟨hl, ?_⟩
    rw [hM]
    exact ⟨rfl, hLM⟩
  · have hPq := hP.2.2 q (by omega)
    have hb := sPay_b hL q M (fun j hj => by have := (hP.2.2 j (by omega)).2.2; exact ⟨by omega, by omega⟩) hM
    have hs := sPay_s hM
    have hno : sPay (X i 26) (rF X i a) (rO X i a) (rM X i a) (rL9 X i a) (q + 1) = none → sPay (X i 26) (rF X i a) (rO X i a) (rM X i a) (rL9 X i a) n = none := fun h0 => by
      have := sPay_no h0 (n - (q + 1))
      rwa [show q + 1 + (n - (q + 1)) = n by omega] at this
    have eF : mC X i a (4 + 3 * (q : Int)) = rF X i a q := rfl
    have eO : mC X i a (5 + 3 * (q : Int)) = rO X i a q := rfl
    have eM : mC X i a (6 + 3 * (q : Int)) = rM X i a q := rfl
    rw [eF, eO, eM]
    generalize rF X i a q = f at hPq hs ⊢
    generalize rO X i a q = t at hPq hs ⊢
    generalize rM X i a q = v at hPq hs ⊢
    refine ⟨⟨by omega, by omega⟩, ⟨hC2, hk.1, hk.2, by omega, by omega⟩, fun r4 => ⟨⟨by omega, by omega⟩, ⟨hC2, hk.1, hk.2, by omega, by omega⟩, fun r5 => ⟨⟨by omega, by omega⟩, ⟨hC2, hk.1, hk.2, by omega, by omega⟩, fun r6 => ⟨hacc.1, fun h1 => ?_, fun h1 => ⟨hacc.1, fun h2 => ?_, fun h2 => ⟨⟨by omega, by omega⟩, fun h3 => ?_, fun h3 => ?_⟩⟩⟩⟩⟩⟩
    · refine ⟨hl, ?_⟩
      rw [hno (by rw [hs, h1]; rfl)]
      rfl
    · refine ⟨hl, ?_⟩
      rw [hno (by rw [hs, h1, h2]; rfl)]
      rfl
    · have x2f : X2 (i + 16) (6 * a + f) = M f := hLM f (by omega) (by omega)
      have x2t : X2 (i + 16) (6 * a + t) = M t := hLM t (by omega) (by omega)
      rw [x2f] at h3 ⊢
      have hbf := hb f (by omega) (by omega)
      refine ⟨⟨by omega, by omega⟩, ⟨by omega, by omega⟩, ⟨by omega, by omega⟩, fun X24 e24 r24 => ?_⟩
      have x24 : ∀ b, 0 ≤ b → b < 6 → X24 (i + 16) (6 * a + b) = upI M f (M f - v) b := fun b b1 b2 => by
        rw [e24]
        unfold upI
        by_cases e : b = f
        · rw [if_pos e, zU_at (by omega)]
        · rw [if_neg e, zU_n (by omega)]
          exact hLM b b1 b2
      have hbt := hb t (by omega) (by omega)
      have hu : upI M f (M f - v) t ≤ 1000000000 + 99 * (q : Int) ∧ 0 ≤ upI M f (M f - v) t := by
        unfold upI
        split
        · exact ⟨by omega, by omega⟩
        · exact ⟨by omega, by omega⟩
      rw [x24 t (by omega) (by omega)]
      refine ⟨⟨by omega, by omega⟩, ⟨by omega, by omega⟩, ⟨by omega, by omega⟩, fun X28 e28 r28 => ⟨⟨by omega, by omega⟩, ⟨q + 1, by omega, by omega, ⟨fun b hb9 => by rw [e28, zU_o hb9, e24, zU_o hb9]; exact hl.1 b hb9, fun b hb9 => by rw [e28, zU_n (by omega), e24, zU_n (by omega)]; exact hl.2 b hb9⟩, upI (upI M f (M f - v)) t (upI M f (M f - v) t + v), ?_, fun b b1 b2 => ?_⟩, by omega⟩⟩
      · rw [hs, h1, h2, decide_eq_true h3]
        rfl
      · rw [e28]
        by_cases e : b = t
        · rw [zU_at (by omega)]
          show _ = if b = t then _ else _
          rw [if_pos e]
        · rw [zU_n (by omega), x24 b b1 b2]
          show _ = if b = t then _ else _
          rw [if_neg e]
    · have x2f : X2 (i + 16) (6 * a + f) = M f := hLM f (by omega) (by omega)
      rw [x2f] at h3
      refine ⟨hl, ?_⟩
      rw [hno (by rw [hs, h1, h2, decide_eq_false h3]; rfl)]
      rfl
theorem c_X11_pays {l : Launch} {D : va_G} {cy : Nat → ClassId} {bs N : Nat} {sa : Nat → Nat} {kd len : Nat → Nat} {X Y : Nat → Int → Int} {R : Nat → Int → Option Nat} {i : Nat} (hM : zM N kd len R i) (a : Int) (ha : rI a) (hp : oC X i ∧ (1 ≤ a ∧ a ≤ 14) ∧ (0 ≤ X i 26 ∧ X i 26 ≤ 6) ∧ oP X i a ∧ in6 (rL9 X i a) 1000000000) : Met l yX11_pays (.code yX11_pays cX11_pays 6 (some .boolean) :: zTB) (zRm 2 43) (zPc D cy bs sa N kd len X Y R [.ref (bs + (i)), .int (zI (a))]) (zQi D cy bs N kd len (fun r st => st.2.1 = Y ∧ st.2.2 = R ∧ ∃ rb : Bool, r = bz rb ∧ (lL X (st.1) i (a) ∧ pR (sPay (X i 26) (rF X i (a)) (rO X i (a)) (rM X i (a)) (rL9 X i (a)) (mC X i (a) 3).toNat) rb (st.1) i (a)))) 0 0 (zA bs) := w_X11_pays hM a ha (v_X11_pays a ha hp)
