/-! TEXTS: what is read depends on the bytes alone -/
section ZTX
variable {T T' : Int → Int} {n : Nat}
theorem enF_g {f : Int → Bool} (h : ∀ y : Nat, y < n → T y = T' y) : ∀ k p, enF f T n k p = enF f T' n k p
  | 0, _ => rfl
  | k + 1, p => by
    show (if p < n ∧ f (T p) = true then enF f T n k (p + 1) else p) = (if p < n ∧ f (T' p) = true then enF f T' n k (p + 1) else p)
    rw [enF_g h k (p + 1)]
    by_cases q : p < n
    · rw [h p q]
    · rw [if_neg (fun g => q g.1), if_neg (fun g => q g.1)]
theorem en_g {f : Int → Bool} (h : ∀ y : Nat, y < n → T y = T' y) (p : Nat) : en f T n p = en f T' n p := enF_g h _ _
theorem tkE_g (h : ∀ y : Nat, y < n → T y = T' y) (q : Nat) : tkE T n q = tkE T' n q := by
  unfold tkE
  by_cases g : n ≤ q
  · rw [if_pos g, if_pos g]
  · rw [if_neg g, if_neg g, h q (by omega), en_g h, en_g h]
theorem tkK_g (h : ∀ y : Nat, y < n → T y = T' y) (q : Nat) : tkK T n q = tkK T' n q := by
  unfold tkK
  by_cases g : n ≤ q
  · rw [if_pos g, if_pos g]
  · rw [if_neg g, if_neg g, h q (by omega), en_g h]
theorem tkB_g (h : ∀ y : Nat, y < n → T y = T' y) (p : Nat) : tkB T n p = tkB T' n p := en_g h p
theorem tkN_g (h : ∀ y : Nat, y < n → T y = T' y) (p : Nat) : tkN T n p = tkN T' n p := by
  unfold tkN
  rw [tkB_g h, tkE_g h]
theorem tkS_g (h : ∀ y : Nat, y < n → T y = T' y) (p : Nat) : tkS T n p = tkS T' n p := by
  unfold tkS
  rw [tkB_g h, tkK_g h]
theorem tk_in (T : Int → Int) (n p : Nat) : tkB T n p + (tkN T n p - tkB T n p) ≤ n ∨ tkN T n p - tkB T n p = 0 := by
  by_cases g : n ≤ tkB T n p
  · right
    unfold tkN tkE
    rw [if_pos g]
    omega
  · left
    unfold tkN tkE
    rw [if_neg g]
    have b := fun f => en_c (f := f) (T := T) (n := n) (p := tkB T n p) (by omega)
    split
    · have := b isLe
      omega
    · split
      · have := b isDi
        omega
      · omega
theorem vaN_g {q : Nat} : ∀ k, (∀ j, j < k → T ((q + j : Nat) : Int) = T' ((q + j : Nat) : Int)) → vaN T q k = vaN T' q k
  | 0, _ => rfl
  | k + 1, h => by
    show (if k < 2 then 10 * vaN T q k + T ((q + k : Nat) : Int) - 48 else vaN T q k) = (if k < 2 then 10 * vaN T' q k + T' ((q + k : Nat) : Int) - 48 else vaN T' q k)
    rw [vaN_g k (fun j hj => h j (by omega)), h k (by omega)]
theorem wvA_g {q : Nat} : ∀ k, (∀ j, j < k → T ((q + j : Nat) : Int) = T' ((q + j : Nat) : Int)) → wvA T q k = wvA T' q k
  | 0, _ => rfl
  | k + 1, h => by
    show 256 * wvA T q k + (T ((q + k : Nat) : Int)).toNat = 256 * wvA T' q k + (T' ((q + k : Nat) : Int)).toNat
    rw [wvA_g k (fun j hj => h j (by omega)), h k (by omega)]
theorem tkV_g (h : ∀ y : Nat, y < n → T y = T' y) (p : Nat) : tkV T n p = tkV T' n p := by
  unfold tkV
  rw [← tkB_g h, ← tkN_g h]
  refine vaN_g _ (fun j hj => h _ ?_)
  have := tk_in T n p
  omega
theorem tkW_g (h : ∀ y : Nat, y < n → T y = T' y) (p : Nat) : tkW T n p = tkW T' n p := by
  unfold tkW
  rw [← tkB_g h, ← tkN_g h, wvA_g _ (fun j hj => h _ (by have := tk_in T n p; omega))]
theorem ptN_g (h : ∀ y : Nat, y < n → T y = T' y) (p : Nat) : ∀ j, ptN T n p j = ptN T' n p j
  | 0 => rfl
  | j + 1 => by
    show tkN T n (ptN T n p j) = tkN T' n (ptN T' n p j)
    rw [ptN_g h p j, tkN_g h]
theorem rdN_g (h : ∀ y : Nat, y < n → T y = T' y) {of w : Int} {told : Int → Int} {p : Nat} {fl : Int × Int} : ∀ j, rdN T n of w told p fl j = rdN T' n of w told p fl j
  | 0 => rfl
  | j + 1 => by
    unfold rdN
    rw [rdN_g h j, ptN_g h, tkS_g h, tkB_g h, tkV_g h, tkV_g h]
theorem rdL_g (h : ∀ y : Nat, y < n → T y = T' y) (of : Int) (s : rST) : rdL T n of s = rdL T' n of s := by
  have ev : (fun j => tkV T n (ptN T n (tkN T n s.1) j)) = fun j => tkV T' n (ptN T' n (tkN T' n s.1) j) := funext fun j => by rw [tkN_g h, ptN_g h, tkV_g h]
  unfold rdL kwT
  rw [ev, rdN_g h, tkS_g h, tkW_g h, tkB_g h, tkN_g h, ptN_g h]
theorem rdA_g (h : ∀ y : Nat, y < n → T y = T' y) (of : Int) : ∀ q s, rdA T n of q s = rdA T' n of q s
  | 0, _ => rfl
  | q + 1, s => by
    have ih := fun s => rdA_g h of q s
    unfold rdA
    rw [tkS_g h, rdL_g h]
    cases rdL T' n of s with
    | inl pl => rfl
    | inr s' =>
      show (if tkS T' n s.1 = 0 then _ else if tkS T n s'.1 = 4 then _ else _) = (if tkS T' n s.1 = 0 then _ else if tkS T' n s'.1 = 4 then _ else _)
      rw [tkS_g h, ih, tkN_g h, tkB_g h]
end ZTX

