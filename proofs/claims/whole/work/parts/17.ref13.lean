/-- always on to the heaviest child -/
def aTw (hc : Nat → Int) : Nat → Nat → Nat
  | 0, a => a
  | d + 1, a => if hc a = -1 then a else aTw hc d (hc a).toNat
theorem aTw_c {hc : Nat → Int} {n : Nat} (h : ∀ a, a < n → hc a = -1 ∨ ((a : Int) < hc a ∧ hc a < n)) : ∀ d1 d2 a, a < n → n - a ≤ d1 → n - a ≤ d2 → aTw hc d1 a = aTw hc d2 a
  | 0, _, a, h0, h1, _ => by omega
  | _, 0, a, h0, _, h2 => by omega
  | d1 + 1, d2 + 1, a, h0, h1, h2 => by
    unfold aTw
    by_cases e : hc a = -1
    · rw [if_pos e, if_pos e]
    · rw [if_neg e, if_neg e]
      rcases h a h0 with g | g
      · exact absurd g e
      · exact aTw_c h d1 d2 _ (by omega) (by omega) (by omega)
theorem aTw_1 {hc : Nat → Int} {n a : Nat} (h0 : a < n) (e : hc a = -1) : aTw hc n a = a := by
  obtain ⟨m, rfl⟩ : ∃ m, n = m + 1 := ⟨n - 1, by omega⟩
  unfold aTw
  rw [if_pos e]
theorem aTw_2 {hc : Nat → Int} {n a : Nat} (h : ∀ a, a < n → hc a = -1 ∨ ((a : Int) < hc a ∧ hc a < n)) (h0 : a < n) (e : hc a ≠ -1) : aTw hc n a = aTw hc n (hc a).toNat := by
  obtain ⟨m, rfl⟩ : ∃ m, n = m + 1 := ⟨n - 1, by omega⟩
  rcases h a h0 with g | g
  · exact absurd g e
  · show (if hc a = -1 then a else aTw hc m (hc a).toNat) = _
    rw [if_neg e]
    exact aTw_c h m (m + 1) _ (by omega) (by omega) (by omega)
theorem aTw_cong {hc hc' : Nat → Int} {n : Nat} (h : ∀ a, a < n → hc a = -1 ∨ ((a : Int) < hc a ∧ hc a < n)) (e : ∀ a, a < n → hc a = hc' a) : ∀ d a, a < n → aTw hc d a = aTw hc' d a
  | 0, _, _ => rfl
  | d + 1, a, h0 => by
    unfold aTw
    rw [← e a h0]
    split
    · rfl
    · rcases h a h0 with g | g
      · contradiction
      · exact aTw_cong h e d _ (by omega)
theorem aHc_w {P : Nat → Nat} {sb : Nat → Int} {w : Nat → Bool} {ah : Nat → Nat → Bool} {at_ : Nat} : ∀ n, aHc P sb w ah at_ n ≠ -1 → w (aHc P sb w ah at_ n).toNat = true
  | 0, h => absurd rfl h
  | n + 1, h => by
    have ih := aHc_w (P := P) (sb := sb) (w := w) (ah := ah) (at_ := at_) n
    unfold aHc at h ⊢
    split
    · rename_i c
      simp only [Bool.and_eq_true, decide_eq_true_eq] at c
      exact c.1.1.2
    · rename_i c
      rw [if_neg c] at h
      exact ih h
theorem aHc_cong {P : Nat → Nat} {sb sb' : Nat → Int} {w w' : Nat → Bool} {ah ah' : Nat → Nat → Bool} {at_ : Nat} : ∀ n, (∀ k, k < n → sb k = sb' k) → (∀ k, k < n → w k = w' k) → (∀ a b, a < n → b < n → w a = true → w b = true → ah a b = ah' a b) → aHc P sb w ah at_ n = aHc P sb' w' ah' at_ n
  | 0, _, _, _ => rfl
  | n + 1, h1, h2, h3 => by
    have ih := aHc_cong (P := P) (at_ := at_) n (fun k hk => h1 k (by omega)) (fun k hk => h2 k (by omega)) (fun a b ha hb => h3 a b (by omega) (by omega))
    have hb := aHc_b (P := P) (sb := sb) (w := w) (ah := ah) (at_ := at_) n
    have hw := aHc_w (P := P) (sb := sb) (w := w) (ah := ah) (at_ := at_) n
    unfold aHc
    rw [← ih, ← h1 n (by omega), ← h2 n (by omega)]
    cases hwn : w n with
    | false => simp
    | true =>
      by_cases e : aHc P sb w ah at_ n = -1
      · simp [e]
      · rcases hb with g | g
        · exact absurd g e
        · rw [← h1 _ (show (aHc P sb w ah at_ n).toNat < n + 1 by omega), ← h3 n _ (by omega) (show (aHc P sb w ah at_ n).toNat < n + 1 by omega) hwn (hw e)]
theorem aHv_w {wt : Nat → Int} {w : Nat → Bool} {ah : Nat → Nat → Bool} (h0 : w 0 = true) : ∀ n, w (aHv wt w ah n) = true
  | 0 => h0
  | n + 1 => by
    have ih := aHv_w (wt := wt) (ah := ah) h0 n
    unfold aHv
    split
    · rename_i c
      simp only [Bool.and_eq_true] at c
      exact c.1
    · exact ih
theorem aHv_cong {wt wt' : Nat → Int} {w w' : Nat → Bool} {ah ah' : Nat → Nat → Bool} (h0 : w 0 = true) : ∀ n, (∀ k, k < n → wt k = wt' k) → (∀ k, k < n → w k = w' k) → (∀ a b, a < n → b < n → w a = true → w b = true → ah a b = ah' a b) → aHv wt w ah n = aHv wt' w' ah' n
  | 0, _, _, _ => rfl
  | n + 1, h1, h2, h3 => by
    have ih := aHv_cong h0 n (fun k hk => h1 k (by omega)) (fun k hk => h2 k (by omega)) (fun a b ha hb => h3 a b (by omega) (by omega))
    have hb := aHv_b (wt := wt) (w := w) (ah := ah) n
    have hw := aHv_w (wt := wt) (ah := ah) h0 n
    unfold aHv
    rw [← ih, ← h1 n (by omega), ← h2 n (by omega), ← h1 _ (show aHv wt w ah n < n + 1 by omega)]
    cases hwn : w n with
    | false => rfl
    | true => rw [← h3 n _ (by omega) (show aHv wt w ah n < n + 1 by omega) hwn hw]
theorem sBd_cong {P : Nat → Nat} {wk wk' : Nat → Int} {f f' : Nat → Bool} {n : Nat} (h1 : ∀ k, k < n → wk k = wk' k) (h2 : ∀ k, k < n → f k = f' k) : ∀ d k, k < n → sBd P wk f n d k = sBd P wk' f' n d k
  | 0, _, _ => rfl
  | d + 1, k, hk => by
    unfold sBd
    rw [h1 k hk]
    congr 1
    apply sumN_cong
    intro e he
    rw [h2 e he, sBd_cong h1 h2 d e he]
theorem sSb_cong {P : Nat → Nat} {wk wk' : Nat → Int} {f f' : Nat → Bool} {n : Nat} (h1 : ∀ k, k < n → wk k = wk' k) (h2 : ∀ k, k < n → f k = f' k) (k : Nat) (hk : k < n) : sSb P wk f n k = sSb P wk' f' n k := sBd_cong h1 h2 n k hk
/-- THE TIP of those in w -/
def sTip (rule : Int) (P : Nat → Nat) (wk wg : Nat → Int) (w : Nat → Bool) (ah : Nat → Nat → Bool) (n : Nat) : Nat := if rule = 0 then aHv wg w ah n else aTw (fun a => aHc P (fun k => sSb P wk w n k) w ah a n) n 0
theorem aHc_h {P : Nat → Nat} {sb : Nat → Int} {w : Nat → Bool} {ah : Nat → Nat → Bool} {n : Nat} : ∀ a, a < n → aHc P sb w ah a n = -1 ∨ ((a : Int) < aHc P sb w ah a n ∧ aHc P sb w ah a n < n) := fun _ _ => aHc_b n
theorem sTip_cong {rule : Int} {P : Nat → Nat} {wk wk' wg wg' : Nat → Int} {w w' : Nat → Bool} {ah ah' : Nat → Nat → Bool} {n : Nat} (hn : 0 < n) (h0 : w 0 = true) (h1 : ∀ k, k < n → wk k = wk' k) (h2 : ∀ k, k < n → wg k = wg' k) (h3 : ∀ k, k < n → w k = w' k) (h4 : ∀ a b, a < n → b < n → w a = true → w b = true → ah a b = ah' a b) : sTip rule P wk wg w ah n = sTip rule P wk' wg' w' ah' n := by
  unfold sTip
  split
  · exact aHv_cong h0 n h2 h3 h4
  · exact aTw_cong aHc_h (fun a ha => aHc_cong n (fun k hk => sSb_cong h1 h3 k hk) h3 h4) n 0 hn
theorem aTw_b {hc : Nat → Int} {n : Nat} (h : ∀ a, a < n → hc a = -1 ∨ ((a : Int) < hc a ∧ hc a < n)) : ∀ d a, a < n → aTw hc d a < n
  | 0, _, h0 => h0
  | d + 1, a, h0 => by
    unfold aTw
    split
    · exact h0
    · rcases h a h0 with g | g
      · contradiction
      · exact aTw_b h d _ (by omega)
theorem sTip_b {rule : Int} {P : Nat → Nat} {wk wg : Nat → Int} {w : Nat → Bool} {ah : Nat → Nat → Bool} {n : Nat} (hn : 0 < n) : sTip rule P wk wg w ah n < n := by
  unfold sTip
  split
  · have := aHv_b (wt := wg) (w := w) (ah := ah) n
    omega
  · exact aTw_b aHc_h n 0 hn
def mTip (X Y : Nat → Int → Int) (i : Nat) : Nat := sTip (X i 28) (rP X i) (fun k => Y (i + 14) k) (fun k => Y (i + 15) k) (mWh X i) (mAh9 X i) (X i 27).toNat
abbrev cX11_tipNow : ByteArray := prog_13_method_60_code
def yX11_tipNow : MethodName := ⟨RX11, "tipNow", "()I"⟩
theorem dX11_tipNow_0 : decode cX11_tipNow 0 = .ok (.aload_n 0, 1) := by decide +kernel
theorem dX11_tipNow_1 : decode cX11_tipNow 1 = .ok (.getfield 307, 3) := by decide +kernel
theorem dX11_tipNow_4 : decode cX11_tipNow 4 = .ok (.ifCond .ne 8, 3) := by decide +kernel
theorem dX11_tipNow_7 : decode cX11_tipNow 7 = .ok (.aload_n 0, 1) := by decide +kernel
theorem dX11_tipNow_8 : decode cX11_tipNow 8 = .ok (.invokevirtual 331, 3) := by decide +kernel
theorem dX11_tipNow_11 : decode cX11_tipNow 11 = .ok (.ireturn, 1) := by decide +kernel
theorem dX11_tipNow_12 : decode cX11_tipNow 12 = .ok (.aload_n 0, 1) := by decide +kernel
theorem dX11_tipNow_13 : decode cX11_tipNow 13 = .ok (.aload_n 0, 1) := by decide +kernel
theorem dX11_tipNow_14 : decode cX11_tipNow 14 = .ok (.getfield 322, 3) := by decide +kernel
theorem dX11_tipNow_17 : decode cX11_tipNow 17 = .ok (.invokevirtual 334, 3) := by decide +kernel
theorem dX11_tipNow_20 : decode cX11_tipNow 20 = .ok (.iconst 0, 1) := by decide +kernel
theorem dX11_tipNow_21 : decode cX11_tipNow 21 = .ok (.istore_n 1, 1) := by decide +kernel
theorem dX11_tipNow_22 : decode cX11_tipNow 22 = .ok (.aload_n 0, 1) := by decide +kernel
theorem dX11_tipNow_23 : decode cX11_tipNow 23 = .ok (.iconst 0, 1) := by decide +kernel
theorem dX11_tipNow_24 : decode cX11_tipNow 24 = .ok (.invokevirtual 337, 3) := by decide +kernel
theorem dX11_tipNow_27 : decode cX11_tipNow 27 = .ok (.istore_n 2, 1) := by decide +kernel
theorem dX11_tipNow_28 : decode cX11_tipNow 28 = .ok (.iload_n 2, 1) := by decide +kernel
theorem dX11_tipNow_29 : decode cX11_tipNow 29 = .ok (.iconst (-1), 1) := by decide +kernel
theorem dX11_tipNow_30 : decode cX11_tipNow 30 = .ok (.if_icmp .eq 14, 3) := by decide +kernel
theorem dX11_tipNow_33 : decode cX11_tipNow 33 = .ok (.iload_n 2, 1) := by decide +kernel
theorem dX11_tipNow_34 : decode cX11_tipNow 34 = .ok (.istore_n 1, 1) := by decide +kernel
theorem dX11_tipNow_35 : decode cX11_tipNow 35 = .ok (.aload_n 0, 1) := by decide +kernel
theorem dX11_tipNow_36 : decode cX11_tipNow 36 = .ok (.iload_n 1, 1) := by decide +kernel
theorem dX11_tipNow_37 : decode cX11_tipNow 37 = .ok (.invokevirtual 337, 3) := by decide +kernel
theorem dX11_tipNow_40 : decode cX11_tipNow 40 = .ok (.istore_n 2, 1) := by decide +kernel
theorem dX11_tipNow_41 : decode cX11_tipNow 41 = .ok (.goto (-13), 3) := by decide +kernel
theorem dX11_tipNow_44 : decode cX11_tipNow 44 = .ok (.iload_n 1, 1) := by decide +kernel
theorem dX11_tipNow_45 : decode cX11_tipNow 45 = .ok (.ireturn, 1) := by decide +kernel
theorem q_1744 : Cond.methodLink RX11 334 yX11_laySubtrees ∈ zTB := zmem 1744 (by decide +kernel) rfl
theorem q_1746 : Cond.instanceMethod yX11_laySubtrees ∈ zTB := zmem 1746 (by decide +kernel) rfl
theorem q_83 : Cond.selects RX11 yX11_laySubtrees yX11_laySubtrees ∈ zTB := zmem 83 (by decide +kernel) rfl
theorem q_1747 : Cond.code yX11_laySubtrees cX11_laySubtrees 4 none ∈ zTB := zmem 1747 (by decide +kernel) rfl
theorem k_RX11_334 : zLv RX11 334 RX11 yX11_laySubtrees cX11_laySubtrees 4 none 1 := ⟨⟨q_1744, q_1746, q_83, q_140, q_1747⟩, rfl, ⟨by decide, by decide⟩, by decide +kernel⟩
theorem q_1748 : Cond.methodLink RX11 337 yX11_heavyChild ∈ zTB := zmem 1748 (by decide +kernel) rfl
theorem q_1750 : Cond.instanceMethod yX11_heavyChild ∈ zTB := zmem 1750 (by decide +kernel) rfl
theorem q_84 : Cond.selects RX11 yX11_heavyChild yX11_heavyChild ∈ zTB := zmem 84 (by decide +kernel) rfl
theorem q_1751 : Cond.code yX11_heavyChild cX11_heavyChild 5 (some .int) ∈ zTB := zmem 1751 (by decide +kernel) rfl
theorem k_RX11_337 : zLv RX11 337 RX11 yX11_heavyChild cX11_heavyChild 5 (some .int) 1 := ⟨⟨q_1748, q_1750, q_84, q_140, q_1751⟩, rfl, ⟨by decide, by decide⟩, by decide +kernel⟩
theorem q_1736 : Cond.methodLink RX11 331 yX11_heaviest ∈ zTB := zmem 1736 (by decide +kernel) rfl
theorem q_1738 : Cond.instanceMethod yX11_heaviest ∈ zTB := zmem 1738 (by decide +kernel) rfl
theorem q_81 : Cond.selects RX11 yX11_heaviest yX11_heaviest ∈ zTB := zmem 81 (by decide +kernel) rfl
theorem q_1739 : Cond.code yX11_heaviest cX11_heaviest 4 (some .int) ∈ zTB := zmem 1739 (by decide +kernel) rfl
theorem k_RX11_331 : zLv RX11 331 RX11 yX11_heaviest cX11_heaviest 4 (some .int) 0 := ⟨⟨q_1736, q_1738, q_81, q_140, q_1739⟩, rfl, ⟨by decide, by decide⟩, by decide +kernel⟩
def F_X11_tipNow (i : Nat) (X Y : Nat → Int → Int) (R : Nat → Int → Option Nat)  : Prop := (∀ i j, rI (X i j)) → (∀ i j, rL (Y i j)) → ((¬ (X (i) 28) = 0) → ((oW X Y i) ∧ (∀ Y3 : Nat → Int → Int, (∀ i j, rL (Y3 i j)) → (lT X Y (Y3) i (X (i) 36) 0) → (((1 ≤ X i 27 ∧ X i 27 ≤ 15) ∧ oB X i (X i 27 - 1) ∧ 0 ≤ (0 : Int) ∧ (0 : Int) < X i 27) ∧ (rI (mHc X Y3 i ((0 : Int)).toNat (X i 27).toNat) → ((∃ q : Nat, (0 : Int) = q ∧ q < (X i 27).toNat ∧ mHc X Y3 i ((0 : Int)).toNat (X i 27).toNat = mHc X Y3 i q (X i 27).toNat ∧ aTw (fun q => mHc X Y3 i q (X i 27).toNat) (X i 27).toNat 0 = aTw (fun q => mHc X Y3 i q (X i 27).toNat) (X i 27).toNat q) ∧ (∀ (at_ : Int) (next : Int), rI at_ → rI next → (∃ q : Nat, at_ = q ∧ q < (X i 27).toNat ∧ next = mHc X Y3 i q (X i 27).toNat ∧ aTw (fun q => mHc X Y3 i q (X i 27).toNat) (X i 27).toNat 0 = aTw (fun q => mHc X Y3 i q (X i 27).toNat) (X i 27).toNat q) → (((next = (-1)) → (at_ = ((mTip X Y i : Nat) : Int) ∧ ∀ a, a ≠ i + 18 → (Y3) a = Y a)) ∧ ((¬ (next = (-1))) → (((1 ≤ X i 27 ∧ X i 27 ≤ 15) ∧ oB X i (X i 27 - 1) ∧ 0 ≤ next ∧ next < X i 27) ∧ (rI (mHc X Y3 i (next).toNat (X i 27).toNat) → ((∃ q : Nat, next = q ∧ q < (X i 27).toNat ∧ mHc X Y3 i (next).toNat (X i 27).toNat = mHc X Y3 i q (X i 27).toNat ∧ aTw (fun q => mHc X Y3 i q (X i 27).toNat) (X i 27).toNat 0 = aTw (fun q => mHc X Y3 i q (X i 27).toNat) (X i 27).toNat q) ∧ (((X i 27 - (next)).toNat) < ((X i 27 - (at_)).toNat)))))))))))))) ∧ ((¬ (¬ (X (i) 28) = 0)) → ((1 ≤ X i 27 ∧ X i 27 ≤ 15) ∧ (rI (((mHv X Y i (X i 27).toNat : Nat) : Int)) → (((mHv X Y i (X i 27).toNat : Nat) : Int) = ((mTip X Y i : Nat) : Int) ∧ ∀ a, a ≠ i + 18 → (Y) a = Y a))))
set_option maxHeartbeats 4000000 in
set_option maxRecDepth 100000 in
theorem w_X11_tipNow {l : Launch} {D : va_G} {cy : Nat → ClassId} {bs N : Nat} {sa : Nat → Nat} {kd len : Nat → Nat} {X Y : Nat → Int → Int} {R : Nat → Int → Option Nat} {i : Nat} (hM : zM N kd len R i)  (hF : F_X11_tipNow i X Y R ) : Met l yX11_tipNow (.code yX11_tipNow cX11_tipNow 3 (some .int) :: zTB) (zRm 3 67) (zPc D cy bs sa N kd len X Y R [.ref (bs + (i))]) (zQi D cy bs N kd len (fun r st => st.1 = X ∧ st.2.2 = R ∧ (r = ((mTip X Y i : Nat) : Int) ∧ ∀ a, a ≠ i + 18 → (st.2.1) a = Y a))) 0 0 (zA bs) := by
  refine zstart (by decide) (Nat.le_of_ble_eq_true rfl) ?_
  intro p e s m args below meth c ls C hE hH hr hlk hnm hl hargs
  have hF := hF hH.2.2.1 hH.2.2.2
  have hS : va_S (zA bs) s.heap s.heap [] := va_S.rf
  have hl : lv_has ls 3 [(0, .ref (bs + (i)))] := hl
  refine lv_aload_n C.1 C.2.1 dX11_tipNow_0 rfl (lv_at hl 0 rfl) ?_
  refine zg11_28 C hH (zM_n0 hM) (zM_k0 hM) q_1315 dX11_tipNow_1 ?_
  refine zd_if_ne C (hH.2.2.1 _ _) 12 dX11_tipNow_4 (by decide) (fun c1 => ?_) (fun c1 => ?_)
  · have hF := hF.1 c1
    refine lv_aload_n C.1 C.2.1 dX11_tipNow_12 rfl (lv_at hl 0 rfl) ?_
    refine lv_aload_n C.1 C.2.1 dX11_tipNow_13 rfl (lv_at hl 0 rfl) ?_
    refine zg11_36 C hH (zM_n0 hM) (zM_k0 hM) q_1323 dX11_tipNow_14 ?_
    obtain ⟨o2, hF⟩ := hF
    refine zgov (zrunV (As := [.int (zI (X (i) 36))]) (rest := []) C hE hH hS hl.1 (c_X11_laySubtrees (l := l) hM (X (i) 36) (hH.2.2.1 _ _) o2) k_RX11_334 ⟨Nat.le_of_ble_eq_true rfl, Nat.le_of_ble_eq_true rfl⟩ (zM_n0 hM) (zM_k0 hM) rfl rfl rfl (Nat.le_of_ble_eq_true rfl) dX11_tipNow_17 ⟨Nat.zero_le _, Nat.zero_le _⟩) hS (fun Xq Y3 Rq H locs hq hH hS => ?_)
    obtain ⟨h9X, h9R, hq⟩ := hq
    dsimp only at h9X h9R
    rw [h9X, h9R] at hH
    have hF := hF Y3 hH.2.2.2 hq
    refine zd_iconst C dX11_tipNow_20 ?_
    refine lv_istore_n (lv' := [(1, .int (zI (0))), (0, .ref (bs + (i)))]) C.1 C.2.1 dX11_tipNow_21 rfl hl (by decide) rfl (fun ls hl => ?_)
    refine lv_aload_n C.1 C.2.1 dX11_tipNow_22 rfl (lv_at hl 1 rfl) ?_
    refine zd_iconst C dX11_tipNow_23 ?_
    obtain ⟨o4, hF⟩ := hF
    refine zgoi (zrunV (As := [.int (zI (0))]) (rest := []) C hE hH hS hl.1 (c_X11_heavyChild (l := l) hM (0) (by decide) o4) k_RX11_337 ⟨Nat.le_of_ble_eq_true rfl, Nat.le_of_ble_eq_true rfl⟩ (zM_n0 hM) (zM_k0 hM) rfl rfl rfl (Nat.le_of_ble_eq_true rfl) dX11_tipNow_24 ⟨Nat.zero_le _, Nat.zero_le _⟩) hS (fun rq Xq Yq Rq H locs hrq hq hH hS => ?_)
    obtain ⟨h91, h92⟩ := hq
    have h93 : Xq = X := congrArg (fun z => z.1) h92
    have h94 : Yq = Y3 := congrArg (fun z => z.2.1) h92
    have h95 : Rq = R := congrArg (fun z => z.2.2) h92
    rw [h93, h94, h95] at hH
    subst h91
    have hr5 := hrq
    have hF := hF hr5
    refine lv_istore_n (lv' := [(2, .int (zI (mHc X Y3 i ((0 : Int)).toNat (X i 27).toNat))), (1, .int (zI (0))), (0, .ref (bs + (i)))]) C.1 C.2.1 dX11_tipNow_27 rfl hl (by decide) rfl (fun ls hl => ?_)
    obtain ⟨hI6, hF⟩ := hF
    have L6 : ∀ (fu : Nat) (at_ : Int) (next : Int), rI at_ → rI next → (∃ q : Nat, at_ = q ∧ q < (X i 27).toNat ∧ next = mHc X Y3 i q (X i 27).toNat ∧ aTw (fun q => mHc X Y3 i q (X i 27).toNat) (X i 27).toNat 0 = aTw (fun q => mHc X Y3 i q (X i 27).toNat) (X i 27).toNat q) → ((X i 27 - (at_)).toNat) < fu → ∀ (H : Heap) (locs : List Loc) (ls : Array Slot), zH D cy bs N kd len X Y3 R H → va_S (zA bs) s.heap H locs → lv_has ls 3 [(1, .int (zI (at_))), (2, .int (zI (next))), (0, .ref (bs + (i)))] → W p l e (zRm 3 67) s m args below meth c H locs 0 0 (MQ below (zQi D cy bs N kd len (fun r st => st.1 = X ∧ st.2.2 = R ∧ (r = ((mTip X Y i : Nat) : Int) ∧ ∀ a, a ≠ i + 18 → (st.2.1) a = Y a))) args s 0 0 (zA bs)) (F0 m 28 ls []) := by
      intro fu
      induction fu with
      | zero => intro at_ next _ _ _ hmu; exact absurd hmu (Nat.not_lt_zero _)
      | succ fu ih6 =>
        intro at_ next hat_ hnext hI hmu6 H locs ls hH hS hl
        have hF := hF at_ next hat_ hnext  hI
        refine lv_iload_n C.1 C.2.1 dX11_tipNow_28 rfl (lv_at hl 1 rfl) ?_
        refine zd_iconst C dX11_tipNow_29 ?_
        refine zd_icmp_eq C hnext (by decide) 44 dX11_tipNow_30 (by decide) (fun c7 => ?_) (fun c7 => ?_)
        · have hF := hF.1 c7
          refine lv_iload_n C.1 C.2.1 dX11_tipNow_44 rfl (lv_at hl 0 rfl) ?_
          exact zd_iret C hr hlk hH hS hat_ (⟨rfl, rfl, hF⟩) dX11_tipNow_45
        · have hF := hF.2 c7
          refine lv_iload_n C.1 C.2.1 dX11_tipNow_33 rfl (lv_at hl 1 rfl) ?_
          refine lv_istore_n (lv' := [(1, .int (zI (next))), (2, .int (zI (next))), (0, .ref (bs + (i)))]) C.1 C.2.1 dX11_tipNow_34 rfl hl (by decide) rfl (fun ls hl => ?_)
          refine lv_aload_n C.1 C.2.1 dX11_tipNow_35 rfl (lv_at hl 2 rfl) ?_
          refine lv_iload_n C.1 C.2.1 dX11_tipNow_36 rfl (lv_at hl 0 rfl) ?_
          obtain ⟨o8, hF⟩ := hF
          refine zgoi (zrunV (As := [.int (zI (next))]) (rest := []) C hE hH hS hl.1 (c_X11_heavyChild (l := l) hM (next) hnext o8) k_RX11_337 ⟨Nat.le_of_ble_eq_true rfl, Nat.le_of_ble_eq_true rfl⟩ (zM_n0 hM) (zM_k0 hM) rfl rfl rfl (Nat.le_of_ble_eq_true rfl) dX11_tipNow_37 ⟨Nat.zero_le _, Nat.zero_le _⟩) hS (fun rq Xq Yq Rq H locs hrq hq hH hS => ?_)
          obtain ⟨h91, h92⟩ := hq
          have h93 : Xq = X := congrArg (fun z => z.1) h92
          have h94 : Yq = Y3 := congrArg (fun z => z.2.1) h92
          have h95 : Rq = R := congrArg (fun z => z.2.2) h92
          rw [h93, h94, h95] at hH
          subst h91
          have hr9 := hrq
          have hF := hF hr9
          refine lv_istore_n (lv' := [(2, .int (zI (mHc X Y3 i (next).toNat (X i 27).toNat))), (1, .int (zI (next))), (0, .ref (bs + (i)))]) C.1 C.2.1 dX11_tipNow_40 rfl hl (by decide) rfl (fun ls hl => ?_)
          refine lv_goto (tgt := 28) C.1 C.2.1 dX11_tipNow_41 (by decide) ?_
          exact ih6 (next) (mHc X Y3 i (next).toNat (X i 27).toNat) hnext hr9 hF.1 (Nat.lt_of_lt_of_le hF.2 (Nat.le_of_lt_succ hmu6)) _ _ _ hH hS (lv_sub hl [1, 0, 2] rfl)
    exact L6 (((X i 27 - ((0 : Int))).toNat) + 1) ((0 : Int)) (mHc X Y3 i ((0 : Int)).toNat (X i 27).toNat) (by decide) hr5 hI6 (Nat.lt_succ_self _) _ _ _ hH hS (lv_sub hl [1, 0, 2] rfl)
  · have hF := hF.2 c1
    refine lv_aload_n C.1 C.2.1 dX11_tipNow_7 rfl (lv_at hl 0 rfl) ?_
    obtain ⟨o10, hF⟩ := hF
    refine zgoi (zrunV (As := []) (rest := []) C hE hH hS hl.1 (c_X11_heaviest (l := l) hM  o10) k_RX11_331 ⟨Nat.le_of_ble_eq_true rfl, Nat.le_of_ble_eq_true rfl⟩ (zM_n0 hM) (zM_k0 hM) rfl rfl rfl (Nat.le_of_ble_eq_true rfl) dX11_tipNow_8 ⟨Nat.zero_le _, Nat.zero_le _⟩) hS (fun rq Xq Yq Rq H locs hrq hq hH hS => ?_)
    obtain ⟨h91, h92⟩ := hq
    have h93 : Xq = X := congrArg (fun z => z.1) h92
    have h94 : Yq = Y := congrArg (fun z => z.2.1) h92
    have h95 : Rq = R := congrArg (fun z => z.2.2) h92
    rw [h93, h94, h95] at hH
    subst h91
    have hr11 := hrq
    have hF := hF hr11
    exact zd_iret C hr hlk hH hS hr11 (⟨rfl, rfl, hF⟩) dX11_tipNow_11
theorem v_X11_tipNow {X Y : Nat → Int → Int} {R : Nat → Int → Option Nat} {i : Nat}  (hp : oW X Y i) : F_X11_tipNow i X Y R  := by
  unfold F_X11_tipNow
  intro hX hY
  obtain ⟨n, hn⟩ : ∃ n : Nat, X i 27 = n := ⟨(X i 27).toNat, by have := hp.1; omega⟩
  have hp9 := hp
  obtain ⟨hb, hB, hw⟩ := hp9
  refine ⟨fun h => ⟨hp, fun Y1 r1 hL => ?_⟩, fun h => ⟨hb, fun _ => ⟨?_, fun _ _ => rfl⟩⟩⟩
  · rw [hn] at hB
    rw [hn, Int.toNat_natCast]
    have hh : ∀ a, a < n → mHc X Y1 i a n = -1 ∨ ((a : Int) < mHc X Y1 i a n ∧ mHc X Y1 i a n < n) := fun a ha => aHc_b n
    have e1 : ∀ k : Nat, k < n → Y1 (i + 18) k = mSb X Y i (X i 36) k := fun k hk => hL.2 k (by omega) (by omega)
    have eT : ((mTip X Y i : Nat) : Int) = ((aTw (fun q => mHc X Y1 i q n) n 0 : Nat) : Int) := by
      congr 1
      unfold mTip sTip
      rw [if_neg (by omega), hn, Int.toNat_natCast]
      refine (aTw_cong hh (fun a ha => ?_) n 0 (by omega)).symm
      refine aHc_cong n (fun k hk => ?_) (fun _ _ => rfl) (fun _ _ _ _ _ _ => rfl)
      rw [e1 k hk]
      unfold mSb
      rw [hn, Int.toNat_natCast]
    refine ⟨⟨by omega, hB, by omega, by omega⟩, fun _ => ⟨⟨0, rfl, by omega, rfl, rfl⟩, ?_⟩⟩
    rintro at_ next ra rn ⟨q, rfl, hq, rfl, hq2⟩
    have hhq := hh q hq
    refine ⟨fun h2 => ⟨?_, fun a ha => hL.1 a ha⟩, fun h2 => ?_⟩
    · rw [eT, hq2, aTw_1 hq h2]
    · rcases hhq with g | g
      · exact absurd g h2
      · refine ⟨⟨by omega, hB, by omega, by omega⟩, fun _ => ⟨⟨(mHc X Y1 i q n).toNat, by omega, by omega, rfl, ?_⟩, by omega⟩⟩
        rw [hq2]
        exact aTw_2 hh hq h2
  · congr 1
    unfold mTip sTip
    rw [if_pos (by omega)]
    rfl
theorem c_X11_tipNow {l : Launch} {D : va_G} {cy : Nat → ClassId} {bs N : Nat} {sa : Nat → Nat} {kd len : Nat → Nat} {X Y : Nat → Int → Int} {R : Nat → Int → Option Nat} {i : Nat} (hM : zM N kd len R i)  (hp : oW X Y i) : Met l yX11_tipNow (.code yX11_tipNow cX11_tipNow 3 (some .int) :: zTB) (zRm 3 67) (zPc D cy bs sa N kd len X Y R [.ref (bs + (i))]) (zQi D cy bs N kd len (fun r st => st.1 = X ∧ st.2.2 = R ∧ (r = ((mTip X Y i : Nat) : Int) ∧ ∀ a, a ≠ i + 18 → (st.2.1) a = Y a))) 0 0 (zA bs) := w_X11_tipNow hM  (v_X11_tipNow  hp)
