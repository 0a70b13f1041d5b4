/-! QUESTIONS ABOUT FEEDS -/
def wfR (Z : Nat → Int → Int) (q : Nat) (R : Nat → Int → Option Nat) (i : Nat) (ok : Prop) [Decidable ok] (a b : Int) : Nat → Int → Option Nat := if ok then wgR Z q R i a b else R
theorem zWC_wf {N : Nat} {kd len : Nat → Nat} {R R1 : Nat → Int → Option Nat} {i : Nat} {Z : Nat → Int → Int} {q : Nat} {ok : Prop} [Decidable ok] {a b : Int} (h : zWC N kd len R i) (e : R1 = wfR Z q R i ok a b) : zWC N kd len R1 i := by
  unfold wfR at e
  split at e
  · exact zWC_wg h e
  · rw [e]
    exact h
theorem csPl_sq {x : Cx} {dw dv : Nat → Int} {dn : Int} {t : Cs} : ∀ (m k0 : Nat), ((k0 + m : Nat) : Int) ≤ dn → (csSq x dw dv dn t k0).1 = true → ∀ k, k0 ≤ k → k ≤ k0 + m → (csSq x dw dv dn t k).1 = true → (k = k0 + m ∨ csOk (xN x) (csSq x dw dv dn t k).2.1 (dw k) (dv k) = false) → csPl x dw dv m k0 (csSq x dw dv dn t k0).2 = (k, (csSq x dw dv dn t k).2)
  | 0, k0, _, _, k, h1, h2, _, _ => by
    have e : k = k0 := by omega
    subst e
    rfl
  | m + 1, k0, hd, h0, k, h1, h2, hk, hs => by
    show (if csOk (xN x) (csSq x dw dv dn t k0).2.1 (dw k0) (dv k0) then csPl x dw dv m (k0 + 1) (csDo x (csSq x dw dv dn t k0).2 (dw k0) (dv k0)) else (k0, (csSq x dw dv dn t k0).2)) = _
    cases c : csOk (xN x) (csSq x dw dv dn t k0).2.1 (dw k0) (dv k0)
    · rw [if_neg (by decide)]
      by_cases e : k = k0
      · subst e
        rfl
      · have f := csSq_f (Or.inr (Or.inr c))
        have g := (csSq_e (x := x) (dw := dw) (dv := dv) (dn := dn) (t := t) (k := k0 + 1) (by rw [f]) (k - (k0 + 1))).1
        rw [show k0 + 1 + (k - (k0 + 1)) = k by omega] at g
        rw [g, f] at hk
        exact absurd (show false = true from hk) (by decide)
    · rw [if_pos rfl]
      have f := csSq_t h0 (by omega) c
      have ih := csPl_sq m (k0 + 1) (by omega) (by rw [f]) k (by
        by_cases e : k = k0
        · subst e
          rcases hs with hs | hs
          · omega
          · rw [c] at hs
            exact absurd hs (by decide)
        · omega) (by omega) hk (by
        rcases hs with hs | hs
        · exact Or.inl (by omega)
        · exact Or.inr hs)
      rw [f] at ih
      exact ih
theorem begin_S {Z : Nat → Int → Int} {q : Nat} {X1 : Nat → Int → Int} {i : Nat} {rho : Int} (hv : vZ Z q) (hr : 0 ≤ rho ∧ rho ≤ 1) (h : coX X1 i = (csI rho).1) (h0 : X1 (i + 48) 0 = 0) : coS Z q X1 i 1 (csI rho) := by
  have hn := vZ_n hv
  refine ⟨⟨h, fun j hj hw => ?_⟩, csI_k (by show 0 < (Z q 27).toNat; omega) hn.2.2, csI_o (x := cx9 Z q 0) (by show 0 < (Z q 27).toNat; omega) hr, oWh_I (x := cx9 Z q 0) (by show 0 < (Z q 27).toNat; omega) hn.2.2 sdf_0, fun e h1 h2 he => ?_⟩
  · have e := mHas_1 j (by omega) hw
    subst e
    exact h0
  · exact absurd (mHas_1 e (by have h2 : e < (Z q 27).toNat := h2; omega) he) (by omega)
section FE
variable {Z : Nat → Int → Int} {q : Nat} {a b f : Int}
theorem fe_n : mDn (hZ Z q a b f) q = Z (q + 8) (81 * f) := by
  unfold mDn
  rw [hZ_o (by omega), hZ_s.2.2.2.2.2.2.2]
theorem fe_d (k w : Int) : mDd (hZ Z q a b f) q k w = Z (q + 8) (81 * f + 1 + 2 * k + w) := by
  unfold mDd
  rw [hZ_o (by omega), hZ_s.2.2.2.2.2.2.2]
theorem fe_R {X : Nat → Int → Int} {r : Nat} (h : oFdr Z q f) (hv : rowV X r 2 40 80) (hr : rowR Z (q + 8) (81 * f) 2 X r) : feR (hZ Z q a b f) q X r 80 := by
  have h40 := h.1
  refine ⟨hv, by rw [fe_n]; exact hr.1, fun k hk => ?_⟩
  rw [fe_n] at hk
  unfold fW fV
  rw [fe_d, fe_d]
  have g := h.2 k (by omega) hk
  exact ⟨hr.2 k 0 (by omega) (by rw [hr.1]; exact hk) (by decide) (by decide), hr.2 k 1 (by omega) (by rw [hr.1]; exact hk) (by decide) (by decide), g.1, g.2.1⟩
end FE
/-- a course has gone through a feed, so far as it goes -/
def goE (Z : Nat → Int → Int) (q : Nat) (X1 : Nat → Int → Int) (i : Nat) (m : Int) (k : Nat) : Prop := ((k : Int) ≤ mDn Z q ∧ (k : Int) ≤ m) ∧ (csSq (rCx Z q) (fW Z q) (fV Z q) (mDn Z q) (csI (Z q 28)) k).1 = true ∧ coS Z q X1 i (1 + 15 * k) (csSq (rCx Z q) (fW Z q) (fV Z q) (mDn Z q) (csI (Z q 28)) k).2 ∧ X1 (i + 47) 9 = k ∧ X1 (i + 47) 14 = bgN (rCx Z q) (fW Z q) (fV Z q) (mDn Z q) (csI (Z q 28)) k ∧ (m ≤ k ∨ csOk (Z q 27).toNat (csSq (rCx Z q) (fW Z q) (fV Z q) (mDn Z q) (csI (Z q 28)) k).2.1 (fW Z q k) (fV Z q k) = false)
theorem goE_pl {Z : Nat → Int → Int} {q : Nat} {X1 : Nat → Int → Int} {i : Nat} {m k : Nat} (hm : (m : Int) ≤ mDn Z q) (h : goE Z q X1 i m k) : rPl Z q m = (k, (csSq (rCx Z q) (fW Z q) (fV Z q) (mDn Z q) (csI (Z q 28)) k).2) := by
  obtain ⟨⟨h1, h2⟩, h3, _, _, _, h4⟩ := h
  have g := csPl_sq (x := rCx Z q) (dw := fW Z q) (dv := fV Z q) (dn := mDn Z q) (t := csI (Z q 28)) m 0 (by omega) rfl k (by omega) (by omega) h3 (by
    rcases h4 with h4 | h4
    · exact Or.inl (by omega)
    · exact Or.inr h4)
  exact g
abbrev cX10_goAll : ByteArray := prog_1_method_21_code
def yX10_goAll : MethodName := ⟨RX10, "goAll", "(III)Z"⟩
theorem dX10_goAll_0 : decode cX10_goAll 0 = .ok (.aload_n 0, 1) := by decide +kernel
theorem dX10_goAll_1 : decode cX10_goAll 1 = .ok (.getfield 10, 3) := by decide +kernel
theorem dX10_goAll_4 : decode cX10_goAll 4 = .ok (.iconst 2, 1) := by decide +kernel
theorem dX10_goAll_5 : decode cX10_goAll 5 = .ok (.iload_n 3, 1) := by decide +kernel
theorem dX10_goAll_6 : decode cX10_goAll 6 = .ok (.invokevirtual 176, 3) := by decide +kernel
theorem dX10_goAll_9 : decode cX10_goAll 9 = .ok (.astore 4, 2) := by decide +kernel
theorem dX10_goAll_11 : decode cX10_goAll 11 = .ok (.aload 4, 2) := by decide +kernel
theorem dX10_goAll_13 : decode cX10_goAll 13 = .ok (.ifnull 12, 3) := by decide +kernel
theorem dX10_goAll_16 : decode cX10_goAll 16 = .ok (.aload_n 0, 1) := by decide +kernel
theorem dX10_goAll_17 : decode cX10_goAll 17 = .ok (.iload_n 1, 1) := by decide +kernel
theorem dX10_goAll_18 : decode cX10_goAll 18 = .ok (.iload_n 2, 1) := by decide +kernel
theorem dX10_goAll_19 : decode cX10_goAll 19 = .ok (.invokevirtual 202, 3) := by decide +kernel
theorem dX10_goAll_22 : decode cX10_goAll 22 = .ok (.ifCond .ne 5, 3) := by decide +kernel
theorem dX10_goAll_25 : decode cX10_goAll 25 = .ok (.iconst 0, 1) := by decide +kernel
theorem dX10_goAll_26 : decode cX10_goAll 26 = .ok (.ireturn, 1) := by decide +kernel
theorem dX10_goAll_27 : decode cX10_goAll 27 = .ok (.aload_n 0, 1) := by decide +kernel
theorem dX10_goAll_28 : decode cX10_goAll 28 = .ok (.getfield 43, 3) := by decide +kernel
theorem dX10_goAll_31 : decode cX10_goAll 31 = .ok (.aload_n 0, 1) := by decide +kernel
theorem dX10_goAll_32 : decode cX10_goAll 32 = .ok (.getfield 34, 3) := by decide +kernel
theorem dX10_goAll_35 : decode cX10_goAll 35 = .ok (.getfield 206, 3) := by decide +kernel
theorem dX10_goAll_38 : decode cX10_goAll 38 = .ok (.getfield 125, 3) := by decide +kernel
theorem dX10_goAll_41 : decode cX10_goAll 41 = .ok (.aload_n 0, 1) := by decide +kernel
theorem dX10_goAll_42 : decode cX10_goAll 42 = .ok (.getfield 34, 3) := by decide +kernel
theorem dX10_goAll_45 : decode cX10_goAll 45 = .ok (.getfield 206, 3) := by decide +kernel
theorem dX10_goAll_48 : decode cX10_goAll 48 = .ok (.getfield 128, 3) := by decide +kernel
theorem dX10_goAll_51 : decode cX10_goAll 51 = .ok (.invokevirtual 210, 3) := by decide +kernel
theorem dX10_goAll_54 : decode cX10_goAll 54 = .ok (.aload_n 0, 1) := by decide +kernel
theorem dX10_goAll_55 : decode cX10_goAll 55 = .ok (.getfield 43, 3) := by decide +kernel
theorem dX10_goAll_58 : decode cX10_goAll 58 = .ok (.aload 4, 2) := by decide +kernel
theorem dX10_goAll_60 : decode cX10_goAll 60 = .ok (.aload 4, 2) := by decide +kernel
theorem dX10_goAll_62 : decode cX10_goAll 62 = .ok (.getfield 184, 3) := by decide +kernel
theorem dX10_goAll_65 : decode cX10_goAll 65 = .ok (.invokevirtual 214, 3) := by decide +kernel
theorem dX10_goAll_68 : decode cX10_goAll 68 = .ok (.iconst 1, 1) := by decide +kernel
theorem dX10_goAll_69 : decode cX10_goAll 69 = .ok (.ireturn, 1) := by decide +kernel
theorem q_866 : Cond.methodLink RX10 176 yX9_rowsAt ∈ zTB := zmem 866 (by decide +kernel) rfl
theorem q_867 : Cond.instanceMethod yX9_rowsAt ∈ zTB := zmem 867 (by decide +kernel) rfl
theorem q_868 : Cond.selects RX9 yX9_rowsAt yX9_rowsAt ∈ zTB := zmem 868 (by decide +kernel) rfl
theorem q_869 : Cond.code yX9_rowsAt cX9_rowsAt 3 (some (.object "WorkChains$Rows")) ∈ zTB := zmem 869 (by decide +kernel) rfl
theorem k_RX10_176 : zLv RX10 176 RX9 yX9_rowsAt cX9_rowsAt 3 (some (.object "WorkChains$Rows")) 2 := ⟨⟨q_866, q_867, q_868, q_130, q_869⟩, rfl, ⟨by decide, by decide⟩, by decide +kernel⟩
theorem q_574 : Cond.fieldLink RX10 43 RX10 "course" "LWorkChains$Course;" ∈ zTB := zmem 574 (by decide +kernel) rfl
theorem q_186 : Cond.fieldLink RX10 125 RX6 "rule" "I" ∈ zTB := zmem 186 (by decide +kernel) rfl
theorem q_189 : Cond.fieldLink RX10 128 RX6 "tie" "I" ∈ zTB := zmem 189 (by decide +kernel) rfl
theorem q_956 : Cond.methodLink RX10 210 yX2_begin ∈ zTB := zmem 956 (by decide +kernel) rfl
theorem q_957 : Cond.instanceMethod yX2_begin ∈ zTB := zmem 957 (by decide +kernel) rfl
theorem q_958 : Cond.selects RX2 yX2_begin yX2_begin ∈ zTB := zmem 958 (by decide +kernel) rfl
theorem q_959 : Cond.code yX2_begin cX2_begin 3 none ∈ zTB := zmem 959 (by decide +kernel) rfl
theorem k_RX10_210 : zLv RX10 210 RX2 yX2_begin cX2_begin 3 none 2 := ⟨⟨q_956, q_957, q_958, q_137, q_959⟩, rfl, ⟨by decide, by decide⟩, by decide +kernel⟩
theorem q_268 : Cond.fieldLink RX10 184 RX8 "size" "I" ∈ zTB := zmem 268 (by decide +kernel) rfl
theorem q_960 : Cond.methodLink RX10 214 yX2_go ∈ zTB := zmem 960 (by decide +kernel) rfl
theorem q_961 : Cond.instanceMethod yX2_go ∈ zTB := zmem 961 (by decide +kernel) rfl
theorem q_962 : Cond.selects RX2 yX2_go yX2_go ∈ zTB := zmem 962 (by decide +kernel) rfl
theorem q_963 : Cond.code yX2_go cX2_go 4 none ∈ zTB := zmem 963 (by decide +kernel) rfl
theorem k_RX10_214 : zLv RX10 214 RX2 yX2_go cX2_go 4 none 2 := ⟨⟨q_960, q_961, q_962, q_137, q_963⟩, rfl, ⟨by decide, by decide⟩, by decide +kernel⟩
def F_X10_goAll (i : Nat) (Z : Nat → Int → Int) (q : Nat) (X Y : Nat → Int → Int) (R : Nat → Int → Option Nat) (a : Int) (b : Int) (g : Int) : Prop := (∀ i j, rI (X i j)) → (∀ i j, rL (Y i j)) → (((2 ≤ ((2 : Int)) ∧ ((2 : Int)) < 5) ∧ 0 ≤ (g) ∧ (g) < 2 ∧ (g) < X (i + 3) ((2 : Int))) → ((wcQ Z q X i) ∧ (∀ r6 : Bool, ∀ X3 : Nat → Int → Int, (∀ i j, rI (X3 i j)) → ∀ Y4 : Nat → Int → Int, (∀ i j, rL (Y4 i j)) → ∀ R5 : Nat → Int → Option Nat, (((R5) = wgR Z q R i (a) (b)) ∧ r6 = rOk Z q (a) (b) ∧ (r6 = false → (X3) = X ∧ (Y4) = Y) ∧ (r6 = true → qK X (X3) i ∧ cA (hZ Z q (a) (b) 0) q (X3) (Y4) (R5) (i + 157) ∧ (X3) (cn (R5) (i + 157)) 3 = hZ Z q (a) (b) 0 q 28 ∧ (X3) (cn (R5) (i + 157)) 4 = hZ Z q (a) (b) 0 q 29)) → (((r6 = true) → (∀ X8 : Nat → Int → Int, (∀ i j, rI (X8 i j)) → (coX (X8) (i + 157) = (csI ((X3 (cn R5 (i + 157)) 3))).1 ∧ ((X8) (i + 205) 0 = 0 ∧ (X8) (i + 204) 1 = ((X3 (cn R5 (i + 157)) 4)) ∧ (X8) (i + 204) 9 = 0 ∧ (X8) (i + 204) 14 = -1) ∧ ∀ z, z ≠ i + 204 → z ≠ i + 205 → (X8) z = X3 z) → ((cA (hZ Z q a b g) q X8 Y4 R5 (i + 157) ∧ (feR (hZ Z q a b g) q X8 (i + 23 + 2 * (((2 - 2) * 2 + g) : Int).toNat) (rwN ((2 - 2) * 2 + g)) ∧ (i + 23 + 2 * (((2 - 2) * 2 + g) : Int).toNat) + 1 < (i + 157)) ∧ (X8 (i + 204) 9 = 0 ∧ X8 (i + 204) 14 = -1) ∧ ∃ t, coS (hZ Z q a b g) q X8 (i + 157) 1 t) ∧ (∀ X10 : Nat → Int → Int, (∀ i j, rI (X10 i j)) → ∀ Y11 : Nat → Int → Int, (∀ i j, rL (Y11 i j)) → (cfK X8 (X10) Y4 (Y11) (i + 157) ∧ ∃ k : Nat, (k : Int) ≤ mDn (hZ Z q a b g) q ∧ (k = 0 ∨ (k : Int) ≤ ((X8 (i + 23 + 2 * (((2 - 2) * 2 + g) : Int).toNat) 2))) ∧ ∀ t, coS (hZ Z q a b g) q X8 (i + 157) 1 t → goP (hZ Z q a b g) q (X10) (i + 157) (X8 (i + 204) 1) t k ∧ (((X8 (i + 23 + 2 * (((2 - 2) * 2 + g) : Int).toNat) 2)) ≤ k ∨ mDn (hZ Z q a b g) q ≤ k ∨ csOk ((hZ Z q a b g) q 27).toNat (csSq (cx9 (hZ Z q a b g) q (X8 (i + 204) 1)) (fW (hZ Z q a b g) q) (fV (hZ Z q a b g) q) (mDn (hZ Z q a b g) q) t k).2.1 (fW (hZ Z q a b g) q k) (fV (hZ Z q a b g) q k) = false)) → (((R5) = wfR Z q R i (0 ≤ g ∧ g < 2 ∧ g < Z (q + 5) 2) (a) (b)) ∧ true = (mIs q Z 2 (g) && rOk Z q (a) (b)) ∧ qK X (X10) i ∧ (true = true → cA (hZ Z q (a) (b) (g)) q (X10) (Y11) (R5) (i + 157) ∧ ∃ k : Nat, goE (hZ Z q (a) (b) (g)) q (X10) (i + 157) (mDn (hZ Z q (a) (b) (g)) q) k)))))) ∧ ((r6 = false) → (((R5) = wfR Z q R i (0 ≤ g ∧ g < 2 ∧ g < Z (q + 5) 2) (a) (b)) ∧ false = (mIs q Z 2 (g) && rOk Z q (a) (b)) ∧ qK X (X3) i ∧ (false = true → cA (hZ Z q (a) (b) (g)) q (X3) (Y4) (R5) (i + 157) ∧ ∃ k : Nat, goE (hZ Z q (a) (b) (g)) q (X3) (i + 157) (mDn (hZ Z q (a) (b) (g)) q) k))))))) ∧ (¬ ((2 ≤ ((2 : Int)) ∧ ((2 : Int)) < 5) ∧ 0 ≤ (g) ∧ (g) < 2 ∧ (g) < X (i + 3) ((2 : Int))) → (((R) = wfR Z q R i (0 ≤ g ∧ g < 2 ∧ g < Z (q + 5) 2) (a) (b)) ∧ false = (mIs q Z 2 (g) && rOk Z q (a) (b)) ∧ qK X (X) i ∧ (false = true → cA (hZ Z q (a) (b) (g)) q (X) (Y) (R) (i + 157) ∧ ∃ k : Nat, goE (hZ Z q (a) (b) (g)) q (X) (i + 157) (mDn (hZ Z q (a) (b) (g)) q) k)))
set_option maxHeartbeats 4000000 in
set_option maxRecDepth 100000 in
theorem w_X10_goAll {l : Launch} {D : va_G} {cy : Nat → ClassId} {bs N : Nat} {sa : Nat → Nat} {kd len : Nat → Nat} {X Y : Nat → Int → Int} {R : Nat → Int → Option Nat} {i : Nat} {Z : Nat → Int → Int} {q : Nat} (hC : zWC N kd len R i) (a : Int) (ha : rI a) (b : Int) (hb : rI b) (g : Int) (hg : rI g) (hF : F_X10_goAll i Z q X Y R a b g) : Met l yX10_goAll (.code yX10_goAll cX10_goAll 5 (some .boolean) :: zTB) (zRm 5 134) (zPc D cy bs sa N kd len X Y R [.ref (bs + (i)), .int (zI (a)), .int (zI (b)), .int (zI (g))]) (zQi D cy bs N kd len (fun r st => ∃ rb : Bool, r = bz rb ∧ (((st.2.2) = wfR Z q R i (0 ≤ g ∧ g < 2 ∧ g < Z (q + 5) 2) (a) (b)) ∧ rb = (mIs q Z 2 (g) && rOk Z q (a) (b)) ∧ qK X (st.1) i ∧ (rb = true → cA (hZ Z q (a) (b) (g)) q (st.1) (st.2.1) (st.2.2) (i + 157) ∧ ∃ k : Nat, goE (hZ Z q (a) (b) (g)) q (st.1) (i + 157) (mDn (hZ Z q (a) (b) (g)) q) k)))) 0 0 (zA bs) := by
  refine zstart (by decide) (Nat.le_of_ble_eq_true rfl) ?_
  intro p e s m args below meth c ls C hE hH hr hlk hnm hl hargs
  have hF := hF hH.2.2.1 hH.2.2.2
  have hS : va_S (zA bs) s.heap s.heap [] := va_S.rf
  have hl : lv_has ls 5 [(0, .ref (bs + (i))), (1, .int (zI (a))), (2, .int (zI (b))), (3, .int (zI (g)))] := hl
  refine lv_aload_n C.1 C.2.1 dX10_goAll_0 rfl (lv_at hl 0 rfl) ?_
  refine zg10_0 C hH (zW_n hC) (zW_k hC) q_569 (zW_td hC).1 dX10_goAll_1 ?_
  refine zd_iconst C dX10_goAll_4 ?_
  refine lv_iload_n C.1 C.2.1 dX10_goAll_5 rfl (lv_at hl 3 rfl) ?_
  refine zgor (zrunV (As := [.int (zI (2)), .int (zI (g))]) (rest := []) C hE hH hS hl.1 (c_X9_rowsAt (l := l) (zW_td hC).2 (2) (by decide) (g) hg) k_RX10_176 ⟨Nat.le_of_ble_eq_true rfl, Nat.le_of_ble_eq_true rfl⟩ (zTold_n0 (zW_td hC).2.1) (zTold_k0 (zW_td hC).2.1) rfl rfl rfl (Nat.le_of_ble_eq_true rfl) dX10_goAll_6 ⟨Nat.zero_le _, Nat.zero_le _⟩) hS (fun rq Xq Yq Rq H locs hq hH hS => ?_)
  obtain ⟨h92, h91⟩ := hq
  have h93 : Xq = X := congrArg (fun z => z.1) h92
  have h94 : Yq = Y := congrArg (fun z => z.2.1) h92
  have h95 : Rq = R := congrArg (fun z => z.2.2) h92
  rw [h93, h94, h95] at hH
  rw [h91]
  by_cases c1 : (2 ≤ ((2 : Int)) ∧ ((2 : Int)) < 5) ∧ 0 ≤ (g) ∧ (g) < 2 ∧ (g) < X (i + 3) ((2 : Int))
  · rw [if_pos c1]
    have hF := hF.1 c1
    refine lv_astore (lv' := [(4, .ref (bs + (i + 23 + 2 * (((2 - 2) * 2 + g) : Int).toNat))), (0, .ref (bs + (i))), (1, .int (zI (a))), (2, .int (zI (b))), (3, .int (zI (g)))]) C.1 C.2.1 dX10_goAll_9 hl (by decide) rfl (fun ls hl => ?_)
    refine lv_aload C.1 C.2.1 dX10_goAll_11 (lv_at hl 0 rfl) ?_
    refine lv_ifnull C.1 C.2.1 dX10_goAll_13 ?_
    refine lv_aload_n C.1 C.2.1 dX10_goAll_16 rfl (lv_at hl 1 rfl) ?_
    refine lv_iload_n C.1 C.2.1 dX10_goAll_17 rfl (lv_at hl 2 rfl) ?_
    refine lv_iload_n C.1 C.2.1 dX10_goAll_18 rfl (lv_at hl 3 rfl) ?_
    obtain ⟨o2, hF⟩ := hF
    refine zgoi (zrunV (As := [.int (zI (a)), .int (zI (b))]) (rest := []) C hE hH hS hl.1 (c_X10_weigh (l := l) hC (a) ha (b) hb o2) k_RX10_202 ⟨Nat.le_of_ble_eq_true rfl, Nat.le_of_ble_eq_true rfl⟩ (zW_n hC) (zW_k hC) rfl rfl rfl (Nat.le_of_ble_eq_true rfl) dX10_goAll_19 ⟨Nat.zero_le _, Nat.zero_le _⟩) hS (fun rq X3 Y4 R5 H locs hrq hq hH hS => ?_)
    obtain ⟨r6, h91, hq⟩ := hq
    subst h91
    have hF := hF r6 X3 hH.2.2.1 Y4 hH.2.2.2 R5 hq
    have hC := zWC_wg hC hq.1
    refine zd_ifB_ne C 27 dX10_goAll_22 (by decide) (fun c7 => ?_) (fun c7 => ?_)
    · have hF := hF.1 c7
      refine lv_aload_n C.1 C.2.1 dX10_goAll_27 rfl (lv_at hl 1 rfl) ?_
      refine zg10_5 C hH (zW_n hC) (zW_k hC) q_574 (zW_lw hC).2.1 dX10_goAll_28 ?_
      refine lv_aload_n C.1 C.2.1 dX10_goAll_31 rfl (lv_at hl 1 rfl) ?_
      refine zg10_4 C hH (zW_n hC) (zW_k hC) q_573 (zW_lw hC).1 dX10_goAll_32 ?_
      refine zg1_0 C hH (zChart_n0 (zW_lw hC).2.2.2.1.1) (zChart_k0 (zW_lw hC).2.2.2.1.1) q_393 (zChart_net (zW_lw hC).2.2.2.1.1).1 dX10_goAll_35 ?_
      refine zg6_3 C hH (zNet_n0 (zChart_net (zW_lw hC).2.2.2.1.1).2) (zNet_k0 (zChart_net (zW_lw hC).2.2.2.1.1).2) q_186 dX10_goAll_38 ?_
      refine lv_aload_n C.1 C.2.1 dX10_goAll_41 rfl (lv_at hl 1 rfl) ?_
      refine zg10_4 C hH (zW_n hC) (zW_k hC) q_573 (zW_lw hC).1 dX10_goAll_42 ?_
      refine zg1_0 C hH (zChart_n0 (zW_lw hC).2.2.2.1.1) (zChart_k0 (zW_lw hC).2.2.2.1.1) q_393 (zChart_net (zW_lw hC).2.2.2.1.1).1 dX10_goAll_45 ?_
      refine zg6_4 C hH (zNet_n0 (zChart_net (zW_lw hC).2.2.2.1.1).2) (zNet_k0 (zChart_net (zW_lw hC).2.2.2.1.1).2) q_189 dX10_goAll_48 ?_
      refine zgov (zrunV (As := [.int (zI (X3 (cn R5 (i + 157)) 3)), .int (zI (X3 (cn R5 (i + 157)) 4))]) (rest := []) C hE hH hS hl.1 (c_X2_begin (l := l) (zW_lw hC).2.2.2.1 (X3 (cn R5 (i + 157)) 3) (hH.2.2.1 _ _) (X3 (cn R5 (i + 157)) 4) (hH.2.2.1 _ _)) k_RX10_210 ⟨Nat.le_of_ble_eq_true rfl, Nat.le_of_ble_eq_true rfl⟩ (zCo_n (zW_lw hC).2.2.2.1) (zCo_k (zW_lw hC).2.2.2.1) rfl rfl rfl (Nat.le_of_ble_eq_true rfl) dX10_goAll_51 ⟨Nat.zero_le _, Nat.zero_le _⟩) hS (fun X8 Yq Rq H locs hq hH hS => ?_)
      obtain ⟨h9Y, h9R, hq⟩ := hq
      dsimp only at h9Y h9R
      rw [h9Y, h9R] at hH
      have hF := hF X8 hH.2.2.1 hq
      refine lv_aload_n C.1 C.2.1 dX10_goAll_54 rfl (lv_at hl 1 rfl) ?_
      refine zg10_5 C hH (zW_n hC) (zW_k hC) q_574 (zW_lw hC).2.1 dX10_goAll_55 ?_
      refine lv_aload C.1 C.2.1 dX10_goAll_58 (lv_at hl 0 rfl) ?_
      refine lv_aload C.1 C.2.1 dX10_goAll_60 (lv_at hl 0 rfl) ?_
      refine zg8_2 C hH (zRows_n0 (zTd_rw (zW_td hC).2 (rix_0 c1) (rix_1 c1)).1.2) (zRows_k0 (zTd_rw (zW_td hC).2 (rix_0 c1) (rix_1 c1)).1.2) q_268 dX10_goAll_62 ?_
      obtain ⟨o9, hF⟩ := hF
      refine zgov (zrunV (As := [.ref (bs + (i + 23 + 2 * (((2 - 2) * 2 + g) : Int).toNat)), .int (zI (X8 (i + 23 + 2 * (((2 - 2) * 2 + g) : Int).toNat) 2))]) (rest := []) C hE hH hS hl.1 (c_X2_go (l := l) (zW_lw hC).2.2.2.1 (zTd_rw (zW_td hC).2 (rix_0 c1) (rix_1 c1)).1.2 (zTd_rw (zW_td hC).2 (rix_0 c1) (rix_1 c1)).2 (X8 (i + 23 + 2 * (((2 - 2) * 2 + g) : Int).toNat) 2) (hH.2.2.1 _ _) o9) k_RX10_214 ⟨Nat.le_of_ble_eq_true rfl, Nat.le_of_ble_eq_true rfl⟩ (zCo_n (zW_lw hC).2.2.2.1) (zCo_k (zW_lw hC).2.2.2.1) rfl rfl rfl (Nat.le_of_ble_eq_true rfl) dX10_goAll_65 ⟨Nat.zero_le _, Nat.zero_le _⟩) hS (fun X10 Y11 Rq H locs hq hH hS => ?_)
      obtain ⟨h9R, hq⟩ := hq
      dsimp only at h9R
      rw [h9R] at hH
      have hF := hF X10 hH.2.2.1 Y11 hH.2.2.2 hq
      refine zd_iconst C dX10_goAll_68 ?_
      exact zd_zret C hr hlk hH hS (by decide) (⟨_, rfl, hF⟩) dX10_goAll_69
    · have hF := hF.2 c7
      refine zd_iconst C dX10_goAll_25 ?_
      exact zd_zret C hr hlk hH hS (by decide) (⟨_, rfl, hF⟩) dX10_goAll_26
  · rw [if_neg c1]
    have hF := hF.2 c1
    refine lv_astoreN (lv' := [(4, .null), (0, .ref (bs + (i))), (1, .int (zI (a))), (2, .int (zI (b))), (3, .int (zI (g)))]) C.1 C.2.1 dX10_goAll_9 hl (by decide) rfl (fun ls hl => ?_)
    refine lv_aloadN C.1 C.2.1 dX10_goAll_11 (lv_at hl 0 rfl) ?_
    refine lv_ifnullN (tgt := 25) C.1 C.2.1 dX10_goAll_13 (by decide) ?_
    refine zd_iconst C dX10_goAll_25 ?_
    exact zd_zret C hr hlk hH hS (by decide) (⟨_, rfl, hF⟩) dX10_goAll_26
theorem v_X10_goAll {X Y : Nat → Int → Int} {R : Nat → Int → Option Nat} {i : Nat} {Z : Nat → Int → Int} {q : Nat} (a : Int) (ha : rI a) (b : Int) (hb : rI b) (g : Int) (hg : rI g) (hp : wcQ Z q X i) : F_X10_goAll i Z q X Y R a b g := by
  unfold F_X10_goAll
  intro hX hY
  obtain ⟨hO, hT, hI⟩ := hp
  have t2 : X (i + 1 + 2) 2 = Z (q + 5) 2 := hT.2.2.1 2 (by decide) (by decide)
  have q2 := hO.1.1 2 (by decide) (by decide)
  refine ⟨?_, ?_⟩
  · intro c1
    obtain ⟨_, g0, g1, g2⟩ := c1
    have g2 : g < X (i + 1 + 2) 2 := g2
    obtain ⟨gn, rfl⟩ := nat_of g0
    rw [show ((2 - 2) * 2 + (gn : Int)).toNat = gn by omega]
    have em : mIs q Z 2 gn = true := mIn_t.mpr (by omega)
    have hF := hT.2.2.2.2.2.1 gn (by omega)
    rw [show i + 1 + 22 + 2 * gn = i + 23 + 2 * gn by omega] at hF
    have hr := hF.2 g2
    rw [show 162 * (0 : Int) + 81 * (gn : Int) = 81 * gn by omega] at hr
    have hfd := hO.2.1 gn g0 (by omega)
    refine ⟨?_, ?_⟩
    · exact ⟨hO, hT, hI⟩
    intro r6
    intro X3
    intro rX3
    intro Y4
    intro rY4
    intro R5
    intro h1
    obtain ⟨eR, er, hf, ht⟩ := h1
    refine ⟨?_, ?_⟩
    · intro c2
      obtain ⟨hk, hA, h39, h49⟩ := ht c2
      have e : rOk Z q a b = true := by rw [← er]; exact c2
      have l := cA_l hA
      have b0 := cA_b hA
      have a6 := cA_a hA
      have e27 := hz_27 (Z := Z) (q := q) (n := a) (c := b) (f := 0)
      have e26 := hz_26 (Z := Z) (q := q) (n := a) (c := b) (f := 0)
      intro X8
      intro rX8
      intro h2
      obtain ⟨hX8, ⟨z0, ztie, z9, z14⟩, o8⟩ := h2
      have hAg : cA (hZ Z q a b gn) q X8 Y4 R5 (i + 157) := cA_t hz_f (cA_f (fun z h _ => o8 z (by omega) (by omega)) (fun _ _ => rfl) hA)
      have s0 := hZ_s (X := Z) (i := q) (n := a) (c := b) (f := 0)
      have sg := hZ_s (X := Z) (i := q) (n := a) (c := b) (f := (gn : Int))
      have hz := hz_n (n := a) (c := b) (f := (gn : Int)) hO.1 (by unfold rOk mIs at e; rw [Bool.and_eq_true, mIn_t, mIn_t] at e; omega) (by unfold rOk mIs at e; rw [Bool.and_eq_true, mIn_t, mIn_t] at e; omega)
      rw [h39, s0.2.2.2.2.1, ← sg.2.2.2.2.1] at hX8
      rw [h49, s0.2.2.2.2.2.1, ← sg.2.2.2.2.2.1] at ztie
      have hS8 := begin_S (Z := hZ Z q a b gn) hAg.1.1.1 hz.2.1 hX8 z0
      have oX : ∀ z, (z < i + 157 ∨ i + 261 < z) → X8 z = X z := fun z hz => (o8 z (by omega) (by omega)).trans (hk.1 z hz)
      have hfe : feR (hZ Z q a b gn) q X8 (i + 23 + 2 * gn) 80 := by
        refine fe_R hfd ?_ ?_
        · unfold rowV oRw
          rw [oX _ (by omega)]
          exact hF.1
        · unfold rowR
          rw [oX _ (by omega), oX (i + 23 + 2 * gn + 1) (by omega)]
          exact hr
      have hs8 : X8 (i + 23 + 2 * gn) 2 = mDn (hZ Z q a b gn) q := hfe.2.1
      refine ⟨?_, ?_⟩
      · refine ⟨hAg, ⟨?_, by omega⟩, ⟨z9, z14⟩, _, hS8⟩
        rw [show rwN ((2 - 2) * 2 + (gn : Int)) = 80 from if_pos (by omega)]
        exact hfe
      intro X10
      intro rX10
      intro Y11
      intro rY11
      intro h3
      rw [hs8] at h3
      obtain ⟨kc, k, kd, kb, hg⟩ := h3
      have G := hg _ hS8
      rw [ztie] at G
      refine ⟨?_, by rw [em, e]; rfl, ⟨fun z hz => (kc.1 z (by omega) (by omega) (by omega)).trans (oX z hz), ?_⟩, fun _ => ⟨cA_f (fun z h g => kc.1 z g (by omega) (by omega)) kc.2.2 hAg, k, ⟨⟨kd, kd⟩, G.1.1, G.1.2.1, G.1.2.2.1, G.1.2.2.2, ?_⟩⟩⟩
      · unfold wfR
        rw [if_pos ⟨g0, g1, by omega⟩]
        exact eR
      · unfold chI
        rw [kc.1 (i + 157 + 9) (by omega) (by omega) (by omega), kc.1 (i + 157 + 11) (by omega) (by omega) (by omega)]
        exact hAg.1.1.2
      · rcases G.2 with h | h | h
        · exact Or.inl h
        · exact Or.inl h
        · exact Or.inr h
    intro c3
    obtain ⟨rfl, rfl⟩ := hf c3
    have e : rOk Z q a b = false := by rw [← er]; exact c3
    exact ⟨by unfold wfR; rw [if_pos ⟨g0, g1, by omega⟩]; exact eR, by rw [em, e]; rfl, ⟨fun _ _ => rfl, hI⟩, (fun g => by cases g)⟩
  intro c4
  have em : mIs q Z 2 g = false := mIn_f.mpr (fun z => c4 ⟨by decide, z.1, by omega, by show g < X (i + 1 + 2) 2; omega⟩)
  exact ⟨by unfold wfR; rw [if_neg (fun z => c4 ⟨by decide, z.1, z.2.1, by show g < X (i + 1 + 2) 2; omega⟩)], by rw [em]; rfl, ⟨fun _ _ => rfl, hI⟩, (fun g => by cases g)⟩
theorem c_X10_goAll {l : Launch} {D : va_G} {cy : Nat → ClassId} {bs N : Nat} {sa : Nat → Nat} {kd len : Nat → Nat} {X Y : Nat → Int → Int} {R : Nat → Int → Option Nat} {i : Nat} {Z : Nat → Int → Int} {q : Nat} (hC : zWC N kd len R i) (a : Int) (ha : rI a) (b : Int) (hb : rI b) (g : Int) (hg : rI g) (hp : wcQ Z q X i) : Met l yX10_goAll (.code yX10_goAll cX10_goAll 5 (some .boolean) :: zTB) (zRm 5 134) (zPc D cy bs sa N kd len X Y R [.ref (bs + (i)), .int (zI (a)), .int (zI (b)), .int (zI (g))]) (zQi D cy bs N kd len (fun r st => ∃ rb : Bool, r = bz rb ∧ (((st.2.2) = wfR Z q R i (0 ≤ g ∧ g < 2 ∧ g < Z (q + 5) 2) (a) (b)) ∧ rb = (mIs q Z 2 (g) && rOk Z q (a) (b)) ∧ qK X (st.1) i ∧ (rb = true → cA (hZ Z q (a) (b) (g)) q (st.1) (st.2.1) (st.2.2) (i + 157) ∧ ∃ k : Nat, goE (hZ Z q (a) (b) (g)) q (st.1) (i + 157) (mDn (hZ Z q (a) (b) (g)) q) k)))) 0 0 (zA bs) := w_X10_goAll hC a ha b hb g hg (v_X10_goAll a ha b hb g hg hp)
abbrev cX10_stateOf : ByteArray := prog_1_method_19_code
def yX10_stateOf : MethodName := ⟨RX10, "stateOf", "(I)I"⟩
theorem dX10_stateOf_0 : decode cX10_stateOf 0 = .ok (.iload_n 1, 1) := by decide +kernel
theorem dX10_stateOf_1 : decode cX10_stateOf 1 = .ok (.tableswitch 131 0 8 #[51, 59, 75, 83, 91, 99, 107, 115, 123], 51) := by decide +kernel
theorem dX10_stateOf_52 : decode cX10_stateOf 52 = .ok (.aload_n 0, 1) := by decide +kernel
theorem dX10_stateOf_53 : decode cX10_stateOf 53 = .ok (.getfield 43, 3) := by decide +kernel
theorem dX10_stateOf_56 : decode cX10_stateOf 56 = .ok (.getfield 225, 3) := by decide +kernel
theorem dX10_stateOf_59 : decode cX10_stateOf 59 = .ok (.ireturn, 1) := by decide +kernel
theorem dX10_stateOf_60 : decode cX10_stateOf 60 = .ok (.aload_n 0, 1) := by decide +kernel
theorem dX10_stateOf_61 : decode cX10_stateOf 61 = .ok (.getfield 34, 3) := by decide +kernel
theorem dX10_stateOf_64 : decode cX10_stateOf 64 = .ok (.getfield 228, 3) := by decide +kernel
theorem dX10_stateOf_67 : decode cX10_stateOf 67 = .ok (.aload_n 0, 1) := by decide +kernel
theorem dX10_stateOf_68 : decode cX10_stateOf 68 = .ok (.getfield 43, 3) := by decide +kernel
theorem dX10_stateOf_71 : decode cX10_stateOf 71 = .ok (.getfield 225, 3) := by decide +kernel
theorem dX10_stateOf_74 : decode cX10_stateOf 74 = .ok (.iaload, 1) := by decide +kernel
theorem dX10_stateOf_75 : decode cX10_stateOf 75 = .ok (.ireturn, 1) := by decide +kernel
theorem dX10_stateOf_76 : decode cX10_stateOf 76 = .ok (.aload_n 0, 1) := by decide +kernel
theorem dX10_stateOf_77 : decode cX10_stateOf 77 = .ok (.getfield 43, 3) := by decide +kernel
theorem dX10_stateOf_80 : decode cX10_stateOf 80 = .ok (.getfield 231, 3) := by decide +kernel
theorem dX10_stateOf_83 : decode cX10_stateOf 83 = .ok (.ireturn, 1) := by decide +kernel
theorem dX10_stateOf_84 : decode cX10_stateOf 84 = .ok (.aload_n 0, 1) := by decide +kernel
theorem dX10_stateOf_85 : decode cX10_stateOf 85 = .ok (.getfield 43, 3) := by decide +kernel
theorem dX10_stateOf_88 : decode cX10_stateOf 88 = .ok (.invokevirtual 234, 3) := by decide +kernel
theorem dX10_stateOf_91 : decode cX10_stateOf 91 = .ok (.ireturn, 1) := by decide +kernel
theorem dX10_stateOf_92 : decode cX10_stateOf 92 = .ok (.aload_n 0, 1) := by decide +kernel
theorem dX10_stateOf_93 : decode cX10_stateOf 93 = .ok (.getfield 43, 3) := by decide +kernel
theorem dX10_stateOf_96 : decode cX10_stateOf 96 = .ok (.getfield 238, 3) := by decide +kernel
theorem dX10_stateOf_99 : decode cX10_stateOf 99 = .ok (.ireturn, 1) := by decide +kernel
theorem dX10_stateOf_100 : decode cX10_stateOf 100 = .ok (.aload_n 0, 1) := by decide +kernel
theorem dX10_stateOf_101 : decode cX10_stateOf 101 = .ok (.getfield 43, 3) := by decide +kernel
theorem dX10_stateOf_104 : decode cX10_stateOf 104 = .ok (.getfield 241, 3) := by decide +kernel
theorem dX10_stateOf_107 : decode cX10_stateOf 107 = .ok (.ireturn, 1) := by decide +kernel
theorem dX10_stateOf_108 : decode cX10_stateOf 108 = .ok (.aload_n 0, 1) := by decide +kernel
theorem dX10_stateOf_109 : decode cX10_stateOf 109 = .ok (.getfield 43, 3) := by decide +kernel
theorem dX10_stateOf_112 : decode cX10_stateOf 112 = .ok (.getfield 244, 3) := by decide +kernel
theorem dX10_stateOf_115 : decode cX10_stateOf 115 = .ok (.ireturn, 1) := by decide +kernel
theorem dX10_stateOf_116 : decode cX10_stateOf 116 = .ok (.aload_n 0, 1) := by decide +kernel
theorem dX10_stateOf_117 : decode cX10_stateOf 117 = .ok (.getfield 43, 3) := by decide +kernel
theorem dX10_stateOf_120 : decode cX10_stateOf 120 = .ok (.invokevirtual 245, 3) := by decide +kernel
theorem dX10_stateOf_123 : decode cX10_stateOf 123 = .ok (.ireturn, 1) := by decide +kernel
theorem dX10_stateOf_124 : decode cX10_stateOf 124 = .ok (.aload_n 0, 1) := by decide +kernel
theorem dX10_stateOf_125 : decode cX10_stateOf 125 = .ok (.getfield 43, 3) := by decide +kernel
theorem dX10_stateOf_128 : decode cX10_stateOf 128 = .ok (.invokevirtual 248, 3) := by decide +kernel
theorem dX10_stateOf_131 : decode cX10_stateOf 131 = .ok (.ireturn, 1) := by decide +kernel
theorem dX10_stateOf_132 : decode cX10_stateOf 132 = .ok (.aload_n 0, 1) := by decide +kernel
theorem dX10_stateOf_133 : decode cX10_stateOf 133 = .ok (.getfield 34, 3) := by decide +kernel
theorem dX10_stateOf_136 : decode cX10_stateOf 136 = .ok (.getfield 206, 3) := by decide +kernel
theorem dX10_stateOf_139 : decode cX10_stateOf 139 = .ok (.iload_n 1, 1) := by decide +kernel
theorem dX10_stateOf_140 : decode cX10_stateOf 140 = .ok (.invokestatic 137, 3) := by decide +kernel
theorem dX10_stateOf_143 : decode cX10_stateOf 143 = .ok (.ifCond .eq 29, 3) := by decide +kernel
theorem dX10_stateOf_146 : decode cX10_stateOf 146 = .ok (.aload_n 0, 1) := by decide +kernel
theorem dX10_stateOf_147 : decode cX10_stateOf 147 = .ok (.getfield 34, 3) := by decide +kernel
theorem dX10_stateOf_150 : decode cX10_stateOf 150 = .ok (.getfield 251, 3) := by decide +kernel
theorem dX10_stateOf_153 : decode cX10_stateOf 153 = .ok (.aload_n 0, 1) := by decide +kernel
theorem dX10_stateOf_154 : decode cX10_stateOf 154 = .ok (.getfield 43, 3) := by decide +kernel
theorem dX10_stateOf_157 : decode cX10_stateOf 157 = .ok (.getfield 225, 3) := by decide +kernel
theorem dX10_stateOf_160 : decode cX10_stateOf 160 = .ok (.aaload, 1) := by decide +kernel
theorem dX10_stateOf_161 : decode cX10_stateOf 161 = .ok (.getfield 255, 3) := by decide +kernel
theorem dX10_stateOf_164 : decode cX10_stateOf 164 = .ok (.iload_n 1, 1) := by decide +kernel
theorem dX10_stateOf_165 : decode cX10_stateOf 165 = .ok (.bipush 10, 2) := by decide +kernel
theorem dX10_stateOf_167 : decode cX10_stateOf 167 = .ok (.isub, 1) := by decide +kernel
theorem dX10_stateOf_168 : decode cX10_stateOf 168 = .ok (.iaload, 1) := by decide +kernel
theorem dX10_stateOf_169 : decode cX10_stateOf 169 = .ok (.goto 4, 3) := by decide +kernel
theorem dX10_stateOf_172 : decode cX10_stateOf 172 = .ok (.iconst (-1), 1) := by decide +kernel
theorem dX10_stateOf_173 : decode cX10_stateOf 173 = .ok (.ireturn, 1) := by decide +kernel
theorem q_462 : Cond.fieldLink RX10 225 RX2 "tip" "I" ∈ zTB := zmem 462 (by decide +kernel) rfl
theorem q_459 : Cond.fieldLink RX10 231 RX2 "whole" "I" ∈ zTB := zmem 459 (by decide +kernel) rfl
theorem q_1015 : Cond.methodLink RX10 234 yX2_orphans ∈ zTB := zmem 1015 (by decide +kernel) rfl
theorem q_1016 : Cond.instanceMethod yX2_orphans ∈ zTB := zmem 1016 (by decide +kernel) rfl
theorem q_1017 : Cond.selects RX2 yX2_orphans yX2_orphans ∈ zTB := zmem 1017 (by decide +kernel) rfl
theorem q_1018 : Cond.code yX2_orphans cX2_orphans 3 (some .int) ∈ zTB := zmem 1018 (by decide +kernel) rfl
theorem k_RX10_234 : zLv RX10 234 RX2 yX2_orphans cX2_orphans 3 (some .int) 0 := ⟨⟨q_1015, q_1016, q_1017, q_137, q_1018⟩, rfl, ⟨by decide, by decide⟩, by decide +kernel⟩
theorem q_466 : Cond.fieldLink RX10 238 RX2 "undone" "I" ∈ zTB := zmem 466 (by decide +kernel) rfl
theorem q_468 : Cond.fieldLink RX10 241 RX2 "done" "I" ∈ zTB := zmem 468 (by decide +kernel) rfl
theorem q_453 : Cond.fieldLink RX10 244 RX2 "rule" "I" ∈ zTB := zmem 453 (by decide +kernel) rfl
theorem q_1019 : Cond.methodLink RX10 245 yX2_headTip ∈ zTB := zmem 1019 (by decide +kernel) rfl
theorem k_RX10_245 : zLv RX10 245 RX2 yX2_headTip cX2_headTip 3 (some .int) 0 := ⟨⟨q_1019, q_1020, q_1021, q_137, q_1022⟩, rfl, ⟨by decide, by decide⟩, by decide +kernel⟩
theorem q_1023 : Cond.methodLink RX10 248 yX2_wanted ∈ zTB := zmem 1023 (by decide +kernel) rfl
theorem q_1024 : Cond.instanceMethod yX2_wanted ∈ zTB := zmem 1024 (by decide +kernel) rfl
theorem q_1025 : Cond.selects RX2 yX2_wanted yX2_wanted ∈ zTB := zmem 1025 (by decide +kernel) rfl
theorem q_1026 : Cond.code yX2_wanted cX2_wanted 1 (some .int) ∈ zTB := zmem 1026 (by decide +kernel) rfl
theorem k_RX10_248 : zLv RX10 248 RX2 yX2_wanted cX2_wanted 1 (some .int) 0 := ⟨⟨q_1023, q_1024, q_1025, q_137, q_1026⟩, rfl, ⟨by decide, by decide⟩, by decide +kernel⟩
def F_X10_stateOf (i : Nat) (Z : Nat → Int → Int) (q : Nat) (X Y : Nat → Int → Int) (R : Nat → Int → Option Nat) (a : Int) : Prop := (∀ i j, rI (X i j)) → (∀ i j, rL (Y i j)) → (a = 0 → (fvK X (X) Y (Y) (i + 157) ∧ ∀ bb t, coS Z q X (i + 157) bb t → (X (i + 204) 8) = csSt (rCx Z q) (rLd Z q) (Z q 26) t (a))) ∧ (a = 1 → ((0 ≤ (X (i + 204) 8) ∧ (X (i + 204) 8) < 15) ∧ (fvK X (X) Y (Y) (i + 157) ∧ ∀ bb t, coS Z q X (i + 157) bb t → (X (i + 168) (X (i + 204) 8)) = csSt (rCx Z q) (rLd Z q) (Z q 26) t (a)))) ∧ (a = 2 → (fvK X (X) Y (Y) (i + 157) ∧ ∀ bb t, coS Z q X (i + 157) bb t → (X (i + 204) 7) = csSt (rCx Z q) (rLd Z q) (Z q 26) t (a))) ∧ (a = 3 → ((cA Z q X Y R (i + 157)) ∧ (rI (bS (csOr (rP Z q) (coX X (i + 157) 1)) (Z q 27).toNat) → (fvK X (X) Y (Y) (i + 157) ∧ ∀ bb t, coS Z q X (i + 157) bb t → (bS (csOr (rP Z q) (coX X (i + 157) 1)) (Z q 27).toNat) = csSt (rCx Z q) (rLd Z q) (Z q 26) t (a))))) ∧ (a = 4 → (fvK X (X) Y (Y) (i + 157) ∧ ∀ bb t, coS Z q X (i + 157) bb t → (X (i + 204) 10) = csSt (rCx Z q) (rLd Z q) (Z q 26) t (a))) ∧ (a = 5 → (fvK X (X) Y (Y) (i + 157) ∧ ∀ bb t, coS Z q X (i + 157) bb t → (X (i + 204) 11) = csSt (rCx Z q) (rLd Z q) (Z q 26) t (a))) ∧ (a = 6 → (fvK X (X) Y (Y) (i + 157) ∧ ∀ bb t, coS Z q X (i + 157) bb t → (X (i + 204) 4) = csSt (rCx Z q) (rLd Z q) (Z q 26) t (a))) ∧ (a = 7 → ((cA Z q X Y R (i + 157)) ∧ (∀ r8 : Int, rI r8 → ∀ X6 : Nat → Int → Int, (∀ i j, rI (X6 i j)) → ∀ Y7 : Nat → Int → Int, (∀ i j, rL (Y7 i j)) → (r8 = ((csHt (rP Z q) (rG Z q) (coX X (i + 157) 1) (Z q 27).toNat : Nat) : Int) ∧ fvK X (X6) Y (Y7) (i + 157)) → (fvK X (X6) Y (Y7) (i + 157) ∧ ∀ bb t, coS Z q X (i + 157) bb t → r8 = csSt (rCx Z q) (rLd Z q) (Z q 26) t (a))))) ∧ (a = 8 → ((cA Z q X Y R (i + 157)) ∧ (∀ r12 : Int, rI r12 → ∀ X10 : Nat → Int → Int, (∀ i j, rI (X10 i j)) → ∀ Y11 : Nat → Int → Int, (∀ i j, rL (Y11 i j)) → (r12 = zAnd (wyP (rP Z q) (csHt (rP Z q) (rG Z q) (coX X (i + 157) 1) (Z q 27).toNat)) (zXor (coX X (i + 157) 2) (-1)) ∧ fvK X (X10) Y (Y11) (i + 157)) → (fvK X (X10) Y (Y11) (i + 157) ∧ ∀ bb t, coS Z q X (i + 157) bb t → r12 = csSt (rCx Z q) (rLd Z q) (Z q 26) t (a))))) ∧ ((a < 0 ∨ 8 < a) → ((X (cn R (i + 157)) 6 ≤ 6) ∧ ((((mIn (a) 10 (10 + X (cn R (i + 157)) 6 - 1)) = false) → (fvK X (X) Y (Y) (i + 157) ∧ ∀ bb t, coS Z q X (i + 157) bb t → (-1) = csSt (rCx Z q) (rLd Z q) (Z q 26) t (a))) ∧ (((mIn (a) 10 (10 + X (cn R (i + 157)) 6 - 1)) = true) → ((0 ≤ (X (i + 204) 8) ∧ (X (i + 204) 8) < 15) ∧ ((0 ≤ (zW (a - 10)) ∧ (zW (a - 10)) < 6) ∧ (fvK X (X) Y (Y) (i + 157) ∧ ∀ bb t, coS Z q X (i + 157) bb t → (X (i + 174 + 2 * (X (i + 204) 8 : Int).toNat + 1) (zW (a - 10))) = csSt (rCx Z q) (rLd Z q) (Z q 26) t (a))))))))
set_option maxHeartbeats 4000000 in
set_option maxRecDepth 100000 in
theorem w_X10_stateOf {l : Launch} {D : va_G} {cy : Nat → ClassId} {bs N : Nat} {sa : Nat → Nat} {kd len : Nat → Nat} {X Y : Nat → Int → Int} {R : Nat → Int → Option Nat} {i : Nat} {Z : Nat → Int → Int} {q : Nat} (hC : zWC N kd len R i) (a : Int) (ha : rI a) (hF : F_X10_stateOf i Z q X Y R a) : Met l yX10_stateOf (.code yX10_stateOf cX10_stateOf 2 (some .int) :: zTB) (zRm 4 90) (zPc D cy bs sa N kd len X Y R [.ref (bs + (i)), .int (zI (a))]) (zQi D cy bs N kd len (fun r st => st.2.2 = R ∧ (fvK X (st.1) Y (st.2.1) (i + 157) ∧ ∀ bb t, coS Z q X (i + 157) bb t → r = csSt (rCx Z q) (rLd Z q) (Z q 26) t (a)))) 0 0 (zA bs) := by
  refine zstart (by decide) (Nat.le_of_ble_eq_true rfl) ?_
  intro p e s m args below meth c ls C hE hH hr hlk hnm hl hargs
  have hF := hF hH.2.2.1 hH.2.2.2
  have hS : va_S (zA bs) s.heap s.heap [] := va_S.rf
  have hl : lv_has ls 2 [(0, .ref (bs + (i))), (1, .int (zI (a)))] := hl
  refine lv_iload_n C.1 C.2.1 dX10_stateOf_0 rfl (lv_at hl 1 rfl) ?_
  by_cases c1_0 : a = 0
  · have hF := hF.1 c1_0
    refine zd_tabI C ha 52 (0) c1_0 dX10_stateOf_1 (by decide) (by decide) rfl (by decide) ?_
    refine lv_aload_n C.1 C.2.1 dX10_stateOf_52 rfl (lv_at hl 0 rfl) ?_
    refine zg10_5 C hH (zW_n hC) (zW_k hC) q_574 (zW_lw hC).2.1 dX10_stateOf_53 ?_
    refine zg2_8 C hH (zCo_n (zW_lw hC).2.2.2.1) (zCo_k (zW_lw hC).2.2.2.1) q_462 dX10_stateOf_56 ?_
    exact zd_iret C hr hlk hH hS (hH.2.2.1 _ _) (⟨rfl, hF⟩) dX10_stateOf_59
  · have hF := hF.2
    by_cases c1_1 : a = 1
    · have hF := hF.1 c1_1
      refine zd_tabI C ha 60 (1) c1_1 dX10_stateOf_1 (by decide) (by decide) rfl (by decide) ?_
      refine lv_aload_n C.1 C.2.1 dX10_stateOf_60 rfl (lv_at hl 0 rfl) ?_
      refine zg10_4 C hH (zW_n hC) (zW_k hC) q_573 (zW_lw hC).1 dX10_stateOf_61 ?_
      refine zg1_6 C hH (zChart_n0 (zW_lw hC).2.2.2.1.1) (zChart_k0 (zW_lw hC).2.2.2.1.1) q_408 (zChart_r11 (zW_lw hC).2.2.2.1.1) dX10_stateOf_64 ?_
      refine lv_aload_n C.1 C.2.1 dX10_stateOf_67 rfl (lv_at hl 0 rfl) ?_
      refine zg10_5 C hH (zW_n hC) (zW_k hC) q_574 (zW_lw hC).2.1 dX10_stateOf_68 ?_
      refine zg2_8 C hH (zCo_n (zW_lw hC).2.2.2.1) (zCo_k (zW_lw hC).2.2.2.1) q_462 dX10_stateOf_71 ?_
      obtain ⟨o2, hF⟩ := hF
      refine zd_iald C hH (zChart_n11 (zW_lw hC).2.2.2.1.1) (zChart_k11 (zW_lw hC).2.2.2.1.1) o2.1 (by rw [zChart_l11 (zW_lw hC).2.2.2.1.1]; exact o2.2) (by rw [zChart_l11 (zW_lw hC).2.2.2.1.1]; decide) dX10_stateOf_74 ?_
      exact zd_iret C hr hlk hH hS (hH.2.2.1 _ _) (⟨rfl, hF⟩) dX10_stateOf_75
    · have hF := hF.2
      by_cases c1_2 : a = 2
      · have hF := hF.1 c1_2
        refine zd_tabI C ha 76 (2) c1_2 dX10_stateOf_1 (by decide) (by decide) rfl (by decide) ?_
        refine lv_aload_n C.1 C.2.1 dX10_stateOf_76 rfl (lv_at hl 0 rfl) ?_
        refine zg10_5 C hH (zW_n hC) (zW_k hC) q_574 (zW_lw hC).2.1 dX10_stateOf_77 ?_
        refine zg2_7 C hH (zCo_n (zW_lw hC).2.2.2.1) (zCo_k (zW_lw hC).2.2.2.1) q_459 dX10_stateOf_80 ?_
        exact zd_iret C hr hlk hH hS (hH.2.2.1 _ _) (⟨rfl, hF⟩) dX10_stateOf_83
      · have hF := hF.2
        by_cases c1_3 : a = 3
        · have hF := hF.1 c1_3
          refine zd_tabI C ha 84 (3) c1_3 dX10_stateOf_1 (by decide) (by decide) rfl (by decide) ?_
          refine lv_aload_n C.1 C.2.1 dX10_stateOf_84 rfl (lv_at hl 0 rfl) ?_
          refine zg10_5 C hH (zW_n hC) (zW_k hC) q_574 (zW_lw hC).2.1 dX10_stateOf_85 ?_
          obtain ⟨o3, hF⟩ := hF
          refine zgoi (zrunV (As := []) (rest := []) C hE hH hS hl.1 (c_X2_orphans (l := l) (zW_lw hC).2.2.2.1  o3) k_RX10_234 ⟨Nat.le_of_ble_eq_true rfl, Nat.le_of_ble_eq_true rfl⟩ (zCo_n (zW_lw hC).2.2.2.1) (zCo_k (zW_lw hC).2.2.2.1) rfl rfl rfl (Nat.le_of_ble_eq_true rfl) dX10_stateOf_88 ⟨Nat.zero_le _, Nat.zero_le _⟩) hS (fun rq Xq Yq Rq H locs hrq hq hH hS => ?_)
          obtain ⟨h91, h92⟩ := hq
          have h93 : Xq = X := congrArg (fun z => z.1) h92
          have h94 : Yq = Y := congrArg (fun z => z.2.1) h92
          have h95 : Rq = R := congrArg (fun z => z.2.2) h92
          rw [h93, h94, h95] at hH
          subst h91
          have hr4 := hrq
          have hF := hF hr4
          exact zd_iret C hr hlk hH hS hr4 (⟨rfl, hF⟩) dX10_stateOf_91
        · have hF := hF.2
          by_cases c1_4 : a = 4
          · have hF := hF.1 c1_4
            refine zd_tabI C ha 92 (4) c1_4 dX10_stateOf_1 (by decide) (by decide) rfl (by decide) ?_
            refine lv_aload_n C.1 C.2.1 dX10_stateOf_92 rfl (lv_at hl 0 rfl) ?_
            refine zg10_5 C hH (zW_n hC) (zW_k hC) q_574 (zW_lw hC).2.1 dX10_stateOf_93 ?_
            refine zg2_10 C hH (zCo_n (zW_lw hC).2.2.2.1) (zCo_k (zW_lw hC).2.2.2.1) q_466 dX10_stateOf_96 ?_
            exact zd_iret C hr hlk hH hS (hH.2.2.1 _ _) (⟨rfl, hF⟩) dX10_stateOf_99
          · have hF := hF.2
            by_cases c1_5 : a = 5
            · have hF := hF.1 c1_5
              refine zd_tabI C ha 100 (5) c1_5 dX10_stateOf_1 (by decide) (by decide) rfl (by decide) ?_
              refine lv_aload_n C.1 C.2.1 dX10_stateOf_100 rfl (lv_at hl 0 rfl) ?_
              refine zg10_5 C hH (zW_n hC) (zW_k hC) q_574 (zW_lw hC).2.1 dX10_stateOf_101 ?_
              refine zg2_11 C hH (zCo_n (zW_lw hC).2.2.2.1) (zCo_k (zW_lw hC).2.2.2.1) q_468 dX10_stateOf_104 ?_
              exact zd_iret C hr hlk hH hS (hH.2.2.1 _ _) (⟨rfl, hF⟩) dX10_stateOf_107
            · have hF := hF.2
              by_cases c1_6 : a = 6
              · have hF := hF.1 c1_6
                refine zd_tabI C ha 108 (6) c1_6 dX10_stateOf_1 (by decide) (by decide) rfl (by decide) ?_
                refine lv_aload_n C.1 C.2.1 dX10_stateOf_108 rfl (lv_at hl 0 rfl) ?_
                refine zg10_5 C hH (zW_n hC) (zW_k hC) q_574 (zW_lw hC).2.1 dX10_stateOf_109 ?_
                refine zg2_4 C hH (zCo_n (zW_lw hC).2.2.2.1) (zCo_k (zW_lw hC).2.2.2.1) q_453 dX10_stateOf_112 ?_
                exact zd_iret C hr hlk hH hS (hH.2.2.1 _ _) (⟨rfl, hF⟩) dX10_stateOf_115
              · have hF := hF.2
                by_cases c1_7 : a = 7
                · have hF := hF.1 c1_7
                  refine zd_tabI C ha 116 (7) c1_7 dX10_stateOf_1 (by decide) (by decide) rfl (by decide) ?_
                  refine lv_aload_n C.1 C.2.1 dX10_stateOf_116 rfl (lv_at hl 0 rfl) ?_
                  refine zg10_5 C hH (zW_n hC) (zW_k hC) q_574 (zW_lw hC).2.1 dX10_stateOf_117 ?_
                  obtain ⟨o5, hF⟩ := hF
                  refine zgoi (zrunV (As := []) (rest := []) C hE hH hS hl.1 (c_X2_headTip (l := l) (zW_lw hC).2.2.2.1  o5) k_RX10_245 ⟨Nat.le_of_ble_eq_true rfl, Nat.le_of_ble_eq_true rfl⟩ (zCo_n (zW_lw hC).2.2.2.1) (zCo_k (zW_lw hC).2.2.2.1) rfl rfl rfl (Nat.le_of_ble_eq_true rfl) dX10_stateOf_120 ⟨Nat.zero_le _, Nat.zero_le _⟩) hS (fun r8 X6 Y7 Rq H locs hrq hq hH hS => ?_)
                  obtain ⟨h9R, hq⟩ := hq
                  dsimp only at h9R
                  rw [h9R] at hH
                  have hr8 := hrq
                  have hF := hF r8 hrq X6 hH.2.2.1 Y7 hH.2.2.2 hq
                  exact zd_iret C hr hlk hH hS hr8 (⟨rfl, hF⟩) dX10_stateOf_123
                · have hF := hF.2
                  by_cases c1_8 : a = 8
                  · have hF := hF.1 c1_8
                    refine zd_tabI C ha 124 (8) c1_8 dX10_stateOf_1 (by decide) (by decide) rfl (by decide) ?_
                    refine lv_aload_n C.1 C.2.1 dX10_stateOf_124 rfl (lv_at hl 0 rfl) ?_
                    refine zg10_5 C hH (zW_n hC) (zW_k hC) q_574 (zW_lw hC).2.1 dX10_stateOf_125 ?_
                    obtain ⟨o9, hF⟩ := hF
                    refine zgoi (zrunV (As := []) (rest := []) C hE hH hS hl.1 (c_X2_wanted (l := l) (zW_lw hC).2.2.2.1  o9) k_RX10_248 ⟨Nat.le_of_ble_eq_true rfl, Nat.le_of_ble_eq_true rfl⟩ (zCo_n (zW_lw hC).2.2.2.1) (zCo_k (zW_lw hC).2.2.2.1) rfl rfl rfl (Nat.le_of_ble_eq_true rfl) dX10_stateOf_128 ⟨Nat.zero_le _, Nat.zero_le _⟩) hS (fun r12 X10 Y11 Rq H locs hrq hq hH hS => ?_)
                    obtain ⟨h9R, hq⟩ := hq
                    dsimp only at h9R
                    rw [h9R] at hH
                    have hr12 := hrq
                    have hF := hF r12 hrq X10 hH.2.2.1 Y11 hH.2.2.2 hq
                    exact zd_iret C hr hlk hH hS hr12 (⟨rfl, hF⟩) dX10_stateOf_131
                  · have hF := hF.2
                    have c1 := tsw_0_8 (a) c1_0 c1_1 c1_2 c1_3 c1_4 c1_5 c1_6 c1_7 c1_8
                    have hF := hF c1
                    refine zd_tabO C ha 132 c1 dX10_stateOf_1 (by decide) ?_
                    refine lv_aload_n C.1 C.2.1 dX10_stateOf_132 rfl (lv_at hl 0 rfl) ?_
                    refine zg10_4 C hH (zW_n hC) (zW_k hC) q_573 (zW_lw hC).1 dX10_stateOf_133 ?_
                    refine zg1_0 C hH (zChart_n0 (zW_lw hC).2.2.2.1.1) (zChart_k0 (zW_lw hC).2.2.2.1.1) q_393 (zChart_net (zW_lw hC).2.2.2.1.1).1 dX10_stateOf_136 ?_
                    refine lv_iload_n C.1 C.2.1 dX10_stateOf_139 rfl (lv_at hl 1 rfl) ?_
                    obtain ⟨o13, hF⟩ := hF
                    refine zgoi (zrunS (As := [.ref (bs + (cn R (i + 157))), .int (zI (a))]) (rest := []) C hE hH hS hl.1 (c_X10_isAccount (l := l) (zChart_net (zW_lw hC).2.2.2.1.1).2 (a) ha o13) k_RX10_137 ⟨Nat.le_of_ble_eq_true rfl, Nat.le_of_ble_eq_true rfl⟩ rfl (Nat.le_of_ble_eq_true rfl) dX10_stateOf_140 ⟨Nat.zero_le _, Nat.zero_le _⟩) hS (fun rq Xq Yq Rq H locs hrq hq hH hS => ?_)
                    obtain ⟨h91, h92⟩ := hq
                    have h93 : Xq = X := congrArg (fun z => z.1) h92
                    have h94 : Yq = Y := congrArg (fun z => z.2.1) h92
                    have h95 : Rq = R := congrArg (fun z => z.2.2) h92
                    rw [h93, h94, h95] at hH
                    subst h91
                    refine zd_ifB_eq C 172 dX10_stateOf_143 (by decide) (fun c14 => ?_) (fun c14 => ?_)
                    · have hF := hF.1 c14
                      refine zd_iconst C dX10_stateOf_172 ?_
                      exact zd_iret C hr hlk hH hS (by decide) (⟨rfl, hF⟩) dX10_stateOf_173
                    · have hF := hF.2 c14
                      refine lv_aload_n C.1 C.2.1 dX10_stateOf_146 rfl (lv_at hl 0 rfl) ?_
                      refine zg10_4 C hH (zW_n hC) (zW_k hC) q_573 (zW_lw hC).1 dX10_stateOf_147 ?_
                      refine zg1_9 C hH (zChart_n0 (zW_lw hC).2.2.2.1.1) (zChart_k0 (zW_lw hC).2.2.2.1.1) q_414 (zChart_r14 (zW_lw hC).2.2.2.1.1) dX10_stateOf_150 ?_
                      refine lv_aload_n C.1 C.2.1 dX10_stateOf_153 rfl (lv_at hl 0 rfl) ?_
                      refine zg10_5 C hH (zW_n hC) (zW_k hC) q_574 (zW_lw hC).2.1 dX10_stateOf_154 ?_
                      refine zg2_8 C hH (zCo_n (zW_lw hC).2.2.2.1) (zCo_k (zW_lw hC).2.2.2.1) q_462 dX10_stateOf_157 ?_
                      obtain ⟨o15, hF⟩ := hF
                      refine zd_aaldr C hH (zChart_n14 (zW_lw hC).2.2.2.1.1) 5 rfl rfl (by rw [(zChart_k14 (zW_lw hC).2.2.2.1.1)]; rfl) o15.1 (by rw [zChart_l14 (zW_lw hC).2.2.2.1.1]; exact o15.2) (by rw [zChart_l14 (zW_lw hC).2.2.2.1.1]; decide) (zChart_lg (zW_lw hC).2.2.2.1.1 o15.1 o15.2).1 dX10_stateOf_160 ?_
                      refine zg5_1 C hH (zLedger_n0 (zChart_lg (zW_lw hC).2.2.2.1.1 o15.1 o15.2).2) (zLedger_k0 (zChart_lg (zW_lw hC).2.2.2.1.1 o15.1 o15.2).2) q_385 (zLedger_r1 (zChart_lg (zW_lw hC).2.2.2.1.1 o15.1 o15.2).2) dX10_stateOf_161 ?_
                      refine lv_iload_n C.1 C.2.1 dX10_stateOf_164 rfl (lv_at hl 1 rfl) ?_
                      refine zd_bipush C (by decide) dX10_stateOf_165 ?_
                      refine zd_isub C dX10_stateOf_167 ?_
                      rw [show zI (a - 10) = zI (zW (a - 10)) from (zI_zW _).symm]
                      obtain ⟨o16, hF⟩ := hF
                      refine zd_iald C hH (zLedger_n1 (zChart_lg (zW_lw hC).2.2.2.1.1 o15.1 o15.2).2) (zLedger_k1 (zChart_lg (zW_lw hC).2.2.2.1.1 o15.1 o15.2).2) o16.1 (by rw [zLedger_l1 (zChart_lg (zW_lw hC).2.2.2.1.1 o15.1 o15.2).2]; exact o16.2) (by rw [zLedger_l1 (zChart_lg (zW_lw hC).2.2.2.1.1 o15.1 o15.2).2]; decide) dX10_stateOf_168 ?_
                      refine lv_goto (tgt := 173) C.1 C.2.1 dX10_stateOf_169 (by decide) ?_
                      exact zd_iret C hr hlk hH hS (hH.2.2.1 _ _) (⟨rfl, hF⟩) dX10_stateOf_173
theorem v_X10_stateOf {X Y : Nat → Int → Int} {R : Nat → Int → Option Nat} {i : Nat} {Z : Nat → Int → Int} {q : Nat} (a : Int) (ha : rI a) (hp : cA Z q X Y R (i + 157) ∧ ∃ bb t, coS Z q X (i + 157) bb t) : F_X10_stateOf i Z q X Y R a := by
  unfold F_X10_stateOf
  intro hX hY
  obtain ⟨hA, hE⟩ := hp
  have l := cA_l hA
  have a6 := cA_a hA
  obtain ⟨bb0, t0, hS0⟩ := hE
  have ex := hS0.1.1
  have e5 : X (i + 204) 8 = t0.1 5 := congrFun ex 5
  obtain ⟨p, hp5, hpn, hpw⟩ := hS0.2.2.2.1.2.2
  have hpn : p < (Z q 27).toNat := hpn
  have hpl : (p : Int) < Z q 27 := by omega
  have e8 : X (i + 204) 8 = p := e5.trans hp5
  refine ⟨?_, ?_⟩
  · intro c1
    refine ⟨fvK.rf, fun bb t hS => ?_⟩
    unfold csSt
    rw [if_neg (show ¬ 10 ≤ a by omega), if_pos (show a = 0 by omega)]
    exact congrFun hS.1.1 5
  refine ⟨?_, ?_⟩
  · intro c2
    refine ⟨?_, ?_⟩
    · rw [e8]
      omega
    refine ⟨fvK.rf, fun bb t hS => ?_⟩
    unfold csSt
    rw [if_neg (show ¬ 10 ≤ a by omega), if_neg (show ¬ a = 0 by omega), if_pos (show a = 1 by omega)]
    rw [e8, ← congrFun hS.1.1 5, show (coT X (i + 157)).1 5 = X (i + 204) 8 from rfl, e8, show ((p : Nat) : Int).toNat = p by omega]
    exact cA_h hA hpl
  refine ⟨?_, ?_⟩
  · intro c3
    refine ⟨fvK.rf, fun bb t hS => ?_⟩
    unfold csSt
    rw [if_neg (show ¬ 10 ≤ a by omega), if_neg (show ¬ a = 0 by omega), if_neg (show ¬ a = 1 by omega), if_pos (show a = 2 by omega)]
    exact congrFun hS.1.1 3
  refine ⟨?_, ?_⟩
  · intro c4
    refine ⟨?_, ?_⟩
    · exact hA
    intro _
    refine ⟨fvK.rf, fun bb t hS => ?_⟩
    unfold csSt
    rw [if_neg (show ¬ 10 ≤ a by omega), if_neg (show ¬ a = 0 by omega), if_neg (show ¬ a = 1 by omega), if_neg (show ¬ a = 2 by omega), if_pos (show a = 3 by omega)]
    rw [← hS.1.1]
    rfl
  refine ⟨?_, ?_⟩
  · intro c5
    refine ⟨fvK.rf, fun bb t hS => ?_⟩
    unfold csSt
    rw [if_neg (show ¬ 10 ≤ a by omega), if_neg (show ¬ a = 0 by omega), if_neg (show ¬ a = 1 by omega), if_neg (show ¬ a = 2 by omega), if_neg (show ¬ a = 3 by omega), if_pos (show a = 4 by omega)]
    exact congrFun hS.1.1 6
  refine ⟨?_, ?_⟩
  · intro c6
    refine ⟨fvK.rf, fun bb t hS => ?_⟩
    unfold csSt
    rw [if_neg (show ¬ 10 ≤ a by omega), if_neg (show ¬ a = 0 by omega), if_neg (show ¬ a = 1 by omega), if_neg (show ¬ a = 2 by omega), if_neg (show ¬ a = 3 by omega), if_neg (show ¬ a = 4 by omega), if_pos (show a = 5 by omega)]
    exact congrFun hS.1.1 7
  refine ⟨?_, ?_⟩
  · intro c7
    refine ⟨fvK.rf, fun bb t hS => ?_⟩
    unfold csSt
    rw [if_neg (show ¬ 10 ≤ a by omega), if_neg (show ¬ a = 0 by omega), if_neg (show ¬ a = 1 by omega), if_neg (show ¬ a = 2 by omega), if_neg (show ¬ a = 3 by omega), if_neg (show ¬ a = 4 by omega), if_neg (show ¬ a = 5 by omega), if_pos (show a = 6 by omega)]
    exact congrFun hS.1.1 0
  refine ⟨?_, ?_⟩
  · intro c8
    refine ⟨?_, ?_⟩
    · exact hA
    intro r8
    intro _
    intro X6
    intro rX6
    intro Y7
    intro rY7
    intro h1
    refine ⟨h1.2, fun bb t hS => ?_⟩
    unfold csSt
    rw [if_neg (show ¬ 10 ≤ a by omega), if_neg (show ¬ a = 0 by omega), if_neg (show ¬ a = 1 by omega), if_neg (show ¬ a = 2 by omega), if_neg (show ¬ a = 3 by omega), if_neg (show ¬ a = 4 by omega), if_neg (show ¬ a = 5 by omega), if_neg (show ¬ a = 6 by omega), if_pos (show a = 7 by omega)]
    rw [h1.1, ← hS.1.1]
    rfl
  refine ⟨?_, ?_⟩
  · intro c9
    refine ⟨?_, ?_⟩
    · exact hA
    intro r12
    intro _
    intro X10
    intro rX10
    intro Y11
    intro rY11
    intro h2
    refine ⟨h2.2, fun bb t hS => ?_⟩
    unfold csSt
    rw [if_neg (show ¬ 10 ≤ a by omega), if_neg (show ¬ a = 0 by omega), if_neg (show ¬ a = 1 by omega), if_neg (show ¬ a = 2 by omega), if_neg (show ¬ a = 3 by omega), if_neg (show ¬ a = 4 by omega), if_neg (show ¬ a = 5 by omega), if_neg (show ¬ a = 6 by omega), if_neg (show ¬ a = 7 by omega), if_pos (show a = 8 by omega)]
    rw [h2.1, ← hS.1.1]
    rfl
  intro c10
  refine ⟨?_, ?_⟩
  · omega
  refine ⟨?_, ?_⟩
  · intro c11
    rw [mIn_f] at c11
    refine ⟨fvK.rf, fun bb t hS => ?_⟩
    unfold csSt
    by_cases g : 10 ≤ a
    · rw [if_pos g, if_neg (show ¬ mIn (a - 10) 0 (Z q 26 - 1) = true by rw [mIn_t]; omega)]
    · rw [if_neg g, if_neg (by omega), if_neg (by omega), if_neg (by omega), if_neg (by omega), if_neg (by omega), if_neg (by omega), if_neg (by omega), if_neg (by omega), if_neg (by omega)]
  intro c12
  refine ⟨?_, ?_⟩
  · rw [e8]
    omega
  refine ⟨?_, ?_⟩
  · rw [mIn_t] at c12
    have ew : zW (a - 10) = a - 10 := zI_toInt ⟨by omega, by omega⟩
    rw [ew]
    omega
  rw [mIn_t] at c12
  have ew : zW (a - 10) = a - 10 := zI_toInt ⟨by omega, by omega⟩
  have hs : sdf Z q p = true := hS0.2.2.2.1.1 p hpn hpw
  have ld := cA_ld hA hpl hs
  refine ⟨fvK.rf, fun bb t hS => ?_⟩
  unfold csSt
  rw [if_pos (by omega), if_pos (mIn_t.mpr (by omega)), ew, e8, ← congrFun hS.1.1 5, show (coT X (i + 157)).1 5 = X (i + 204) 8 from rfl, e8, show ((p : Nat) : Int).toNat = p by omega]
  exact ld.2.1 (a - 10) (by omega) (by omega)
theorem c_X10_stateOf {l : Launch} {D : va_G} {cy : Nat → ClassId} {bs N : Nat} {sa : Nat → Nat} {kd len : Nat → Nat} {X Y : Nat → Int → Int} {R : Nat → Int → Option Nat} {i : Nat} {Z : Nat → Int → Int} {q : Nat} (hC : zWC N kd len R i) (a : Int) (ha : rI a) (hp : cA Z q X Y R (i + 157) ∧ ∃ bb t, coS Z q X (i + 157) bb t) : Met l yX10_stateOf (.code yX10_stateOf cX10_stateOf 2 (some .int) :: zTB) (zRm 4 90) (zPc D cy bs sa N kd len X Y R [.ref (bs + (i)), .int (zI (a))]) (zQi D cy bs N kd len (fun r st => st.2.2 = R ∧ (fvK X (st.1) Y (st.2.1) (i + 157) ∧ ∀ bb t, coS Z q X (i + 157) bb t → r = csSt (rCx Z q) (rLd Z q) (Z q 26) t (a)))) 0 0 (zA bs) := w_X10_stateOf hC a ha (v_X10_stateOf a ha hp)
abbrev cX10_stop : ByteArray := prog_1_method_16_code
def yX10_stop : MethodName := ⟨RX10, "stop", "(III)I"⟩
theorem dX10_stop_0 : decode cX10_stop 0 = .ok (.aload_n 0, 1) := by decide +kernel
theorem dX10_stop_1 : decode cX10_stop 1 = .ok (.iload_n 1, 1) := by decide +kernel
theorem dX10_stop_2 : decode cX10_stop 2 = .ok (.iload_n 2, 1) := by decide +kernel
theorem dX10_stop_3 : decode cX10_stop 3 = .ok (.iload_n 3, 1) := by decide +kernel
theorem dX10_stop_4 : decode cX10_stop 4 = .ok (.invokevirtual 195, 3) := by decide +kernel
theorem dX10_stop_7 : decode cX10_stop 7 = .ok (.ifCond .eq 13, 3) := by decide +kernel
theorem dX10_stop_10 : decode cX10_stop 10 = .ok (.aload_n 0, 1) := by decide +kernel
theorem dX10_stop_11 : decode cX10_stop 11 = .ok (.getfield 43, 3) := by decide +kernel
theorem dX10_stop_14 : decode cX10_stop 14 = .ok (.getfield 199, 3) := by decide +kernel
theorem dX10_stop_17 : decode cX10_stop 17 = .ok (.goto 4, 3) := by decide +kernel
theorem dX10_stop_20 : decode cX10_stop 20 = .ok (.iconst (-1), 1) := by decide +kernel
theorem dX10_stop_21 : decode cX10_stop 21 = .ok (.ireturn, 1) := by decide +kernel
theorem q_889 : Cond.methodLink RX10 195 yX10_goAll ∈ zTB := zmem 889 (by decide +kernel) rfl
theorem q_891 : Cond.instanceMethod yX10_goAll ∈ zTB := zmem 891 (by decide +kernel) rfl
theorem q_13 : Cond.selects RX10 yX10_goAll yX10_goAll ∈ zTB := zmem 13 (by decide +kernel) rfl
theorem q_892 : Cond.code yX10_goAll cX10_goAll 5 (some .boolean) ∈ zTB := zmem 892 (by decide +kernel) rfl
theorem k_RX10_195 : zLv RX10 195 RX10 yX10_goAll cX10_goAll 5 (some .boolean) 3 := ⟨⟨q_889, q_891, q_13, q_129, q_892⟩, rfl, ⟨by decide, by decide⟩, by decide +kernel⟩
theorem q_464 : Cond.fieldLink RX10 199 RX2 "deeds" "I" ∈ zTB := zmem 464 (by decide +kernel) rfl
def F_X10_stop (i : Nat) (Z : Nat → Int → Int) (q : Nat) (X Y : Nat → Int → Int) (R : Nat → Int → Option Nat) (a : Int) (b : Int) (g : Int) : Prop := (∀ i j, rI (X i j)) → (∀ i j, rL (Y i j)) → (wcQ Z q X i) ∧ (∀ r5 : Bool, ∀ X2 : Nat → Int → Int, (∀ i j, rI (X2 i j)) → ∀ Y3 : Nat → Int → Int, (∀ i j, rL (Y3 i j)) → ∀ R4 : Nat → Int → Option Nat, (((R4) = wfR Z q R i (0 ≤ (g) ∧ (g) < 2 ∧ (g) < Z (q + 5) 2) (a) (b)) ∧ r5 = (mIs q Z 2 (g) && rOk Z q (a) (b)) ∧ qK X (X2) i ∧ (r5 = true → cA (hZ Z q (a) (b) (g)) q (X2) (Y3) (R4) (i + 157) ∧ ∃ k : Nat, goE (hZ Z q (a) (b) (g)) q (X2) (i + 157) (mDn (hZ Z q (a) (b) (g)) q) k)) → (((r5 = false) → (((R4) = wfR Z q R i (0 ≤ g ∧ g < 2 ∧ g < Z (q + 5) 2) (a) (b)) ∧ (-1) = rStop Z q (a) (b) (g) ∧ qK X (X2) i)) ∧ ((r5 = true) → (((R4) = wfR Z q R i (0 ≤ g ∧ g < 2 ∧ g < Z (q + 5) 2) (a) (b)) ∧ (X2 (i + 204) 9) = rStop Z q (a) (b) (g) ∧ qK X (X2) i))))
set_option maxHeartbeats 4000000 in
set_option maxRecDepth 100000 in
theorem w_X10_stop {l : Launch} {D : va_G} {cy : Nat → ClassId} {bs N : Nat} {sa : Nat → Nat} {kd len : Nat → Nat} {X Y : Nat → Int → Int} {R : Nat → Int → Option Nat} {i : Nat} {Z : Nat → Int → Int} {q : Nat} (hC : zWC N kd len R i) (a : Int) (ha : rI a) (b : Int) (hb : rI b) (g : Int) (hg : rI g) (hF : F_X10_stop i Z q X Y R a b g) : Met l yX10_stop (.code yX10_stop cX10_stop 4 (some .int) :: zTB) (zRm 6 158) (zPc D cy bs sa N kd len X Y R [.ref (bs + (i)), .int (zI (a)), .int (zI (b)), .int (zI (g))]) (zQi D cy bs N kd len (fun r st => (((st.2.2) = wfR Z q R i (0 ≤ g ∧ g < 2 ∧ g < Z (q + 5) 2) (a) (b)) ∧ r = rStop Z q (a) (b) (g) ∧ qK X (st.1) i))) 0 0 (zA bs) := by
  refine zstart (by decide) (Nat.le_of_ble_eq_true rfl) ?_
  intro p e s m args below meth c ls C hE hH hr hlk hnm hl hargs
  have hF := hF hH.2.2.1 hH.2.2.2
  have hS : va_S (zA bs) s.heap s.heap [] := va_S.rf
  have hl : lv_has ls 4 [(0, .ref (bs + (i))), (1, .int (zI (a))), (2, .int (zI (b))), (3, .int (zI (g)))] := hl
  refine lv_aload_n C.1 C.2.1 dX10_stop_0 rfl (lv_at hl 0 rfl) ?_
  refine lv_iload_n C.1 C.2.1 dX10_stop_1 rfl (lv_at hl 1 rfl) ?_
  refine lv_iload_n C.1 C.2.1 dX10_stop_2 rfl (lv_at hl 2 rfl) ?_
  refine lv_iload_n C.1 C.2.1 dX10_stop_3 rfl (lv_at hl 3 rfl) ?_
  obtain ⟨o1, hF⟩ := hF
  refine zgoi (zrunV (As := [.int (zI (a)), .int (zI (b)), .int (zI (g))]) (rest := []) C hE hH hS hl.1 (c_X10_goAll (l := l) hC (a) ha (b) hb (g) hg o1) k_RX10_195 ⟨Nat.le_of_ble_eq_true rfl, Nat.le_of_ble_eq_true rfl⟩ (zW_n hC) (zW_k hC) rfl rfl rfl (Nat.le_of_ble_eq_true rfl) dX10_stop_4 ⟨Nat.zero_le _, Nat.zero_le _⟩) hS (fun rq X2 Y3 R4 H locs hrq hq hH hS => ?_)
  obtain ⟨r5, h91, hq⟩ := hq
  subst h91
  have hF := hF r5 X2 hH.2.2.1 Y3 hH.2.2.2 R4 hq
  have hC := zWC_wf hC hq.1
  refine zd_ifB_eq C 20 dX10_stop_7 (by decide) (fun c6 => ?_) (fun c6 => ?_)
  · have hF := hF.1 c6
    refine zd_iconst C dX10_stop_20 ?_
    exact zd_iret C hr hlk hH hS (by decide) (hF) dX10_stop_21
  · have hF := hF.2 c6
    refine lv_aload_n C.1 C.2.1 dX10_stop_10 rfl (lv_at hl 0 rfl) ?_
    refine zg10_5 C hH (zW_n hC) (zW_k hC) q_574 (zW_lw hC).2.1 dX10_stop_11 ?_
    refine zg2_9 C hH (zCo_n (zW_lw hC).2.2.2.1) (zCo_k (zW_lw hC).2.2.2.1) q_464 dX10_stop_14 ?_
    refine lv_goto (tgt := 21) C.1 C.2.1 dX10_stop_17 (by decide) ?_
    exact zd_iret C hr hlk hH hS (hH.2.2.1 _ _) (hF) dX10_stop_21
theorem v_X10_stop {X Y : Nat → Int → Int} {R : Nat → Int → Option Nat} {i : Nat} {Z : Nat → Int → Int} {q : Nat} (a : Int) (ha : rI a) (b : Int) (hb : rI b) (g : Int) (hg : rI g) (hp : wcQ Z q X i) : F_X10_stop i Z q X Y R a b g := by
  unfold F_X10_stop
  intro hX hY
  refine ⟨?_, ?_⟩
  · exact hp
  intro r5
  intro X2
  intro rX2
  intro Y3
  intro rY3
  intro R4
  intro h1
  obtain ⟨eR, er, hk, ht⟩ := h1
  refine ⟨?_, ?_⟩
  · intro c1
    have e := er.symm.trans c1
    refine ⟨eR, ?_, hk⟩
    unfold rStop
    rw [if_neg (fun z => by have z : (mIs q Z 2 g && rOk Z q a b) = true := z; rw [e] at z; exact absurd z (by decide))]
  intro c2
  obtain ⟨hA, k, hE⟩ := ht c2
  have e := er.symm.trans c2
  have hd := hE.1.1
  have ed : (((mDn (hZ Z q a b g) q).toNat : Nat) : Int) = mDn (hZ Z q a b g) q := by omega
  have g9 := goE_pl (Z := hZ Z q a b g) (q := q) (m := (mDn (hZ Z q a b g) q).toNat) (by omega) (by rw [ed]; exact hE)
  refine ⟨eR, ?_, hk⟩
  unfold rStop
  rw [if_pos (show (mIs q Z 2 g && (mIs q Z 1 b && mIs q Z 0 a)) = true from e), ← fe_n (Z := Z) (q := q) (a := a) (b := b) (f := g), g9]
  exact hE.2.2.2.1
theorem c_X10_stop {l : Launch} {D : va_G} {cy : Nat → ClassId} {bs N : Nat} {sa : Nat → Nat} {kd len : Nat → Nat} {X Y : Nat → Int → Int} {R : Nat → Int → Option Nat} {i : Nat} {Z : Nat → Int → Int} {q : Nat} (hC : zWC N kd len R i) (a : Int) (ha : rI a) (b : Int) (hb : rI b) (g : Int) (hg : rI g) (hp : wcQ Z q X i) : Met l yX10_stop (.code yX10_stop cX10_stop 4 (some .int) :: zTB) (zRm 6 158) (zPc D cy bs sa N kd len X Y R [.ref (bs + (i)), .int (zI (a)), .int (zI (b)), .int (zI (g))]) (zQi D cy bs N kd len (fun r st => (((st.2.2) = wfR Z q R i (0 ≤ g ∧ g < 2 ∧ g < Z (q + 5) 2) (a) (b)) ∧ r = rStop Z q (a) (b) (g) ∧ qK X (st.1) i))) 0 0 (zA bs) := w_X10_stop hC a ha b hb g hg (v_X10_stop a ha b hb g hg hp)
abbrev cX10_state : ByteArray := prog_1_method_17_code
def yX10_state : MethodName := ⟨RX10, "state", "(IIIII)I"⟩
theorem dX10_state_0 : decode cX10_state 0 = .ok (.aload_n 0, 1) := by decide +kernel
theorem dX10_state_1 : decode cX10_state 1 = .ok (.getfield 10, 3) := by decide +kernel
theorem dX10_state_4 : decode cX10_state 4 = .ok (.iconst 2, 1) := by decide +kernel
theorem dX10_state_5 : decode cX10_state 5 = .ok (.iload_n 3, 1) := by decide +kernel
theorem dX10_state_6 : decode cX10_state 6 = .ok (.invokevirtual 176, 3) := by decide +kernel
theorem dX10_state_9 : decode cX10_state 9 = .ok (.astore 6, 2) := by decide +kernel
theorem dX10_state_11 : decode cX10_state 11 = .ok (.aload 6, 2) := by decide +kernel
theorem dX10_state_13 : decode cX10_state 13 = .ok (.ifnull 27, 3) := by decide +kernel
theorem dX10_state_16 : decode cX10_state 16 = .ok (.iload 4, 2) := by decide +kernel
theorem dX10_state_18 : decode cX10_state 18 = .ok (.ifCond .lt 22, 3) := by decide +kernel
theorem dX10_state_21 : decode cX10_state 21 = .ok (.iload 4, 2) := by decide +kernel
theorem dX10_state_23 : decode cX10_state 23 = .ok (.aload 6, 2) := by decide +kernel
theorem dX10_state_25 : decode cX10_state 25 = .ok (.getfield 184, 3) := by decide +kernel
theorem dX10_state_28 : decode cX10_state 28 = .ok (.if_icmp .gt 12, 3) := by decide +kernel
theorem dX10_state_31 : decode cX10_state 31 = .ok (.aload_n 0, 1) := by decide +kernel
theorem dX10_state_32 : decode cX10_state 32 = .ok (.iload_n 1, 1) := by decide +kernel
theorem dX10_state_33 : decode cX10_state 33 = .ok (.iload_n 2, 1) := by decide +kernel
theorem dX10_state_34 : decode cX10_state 34 = .ok (.invokevirtual 202, 3) := by decide +kernel
theorem dX10_state_37 : decode cX10_state 37 = .ok (.ifCond .ne 5, 3) := by decide +kernel
theorem dX10_state_40 : decode cX10_state 40 = .ok (.iconst (-1), 1) := by decide +kernel
theorem dX10_state_41 : decode cX10_state 41 = .ok (.ireturn, 1) := by decide +kernel
theorem dX10_state_42 : decode cX10_state 42 = .ok (.aload_n 0, 1) := by decide +kernel
theorem dX10_state_43 : decode cX10_state 43 = .ok (.getfield 43, 3) := by decide +kernel
theorem dX10_state_46 : decode cX10_state 46 = .ok (.aload_n 0, 1) := by decide +kernel
theorem dX10_state_47 : decode cX10_state 47 = .ok (.getfield 34, 3) := by decide +kernel
theorem dX10_state_50 : decode cX10_state 50 = .ok (.getfield 206, 3) := by decide +kernel
theorem dX10_state_53 : decode cX10_state 53 = .ok (.getfield 125, 3) := by decide +kernel
theorem dX10_state_56 : decode cX10_state 56 = .ok (.aload_n 0, 1) := by decide +kernel
theorem dX10_state_57 : decode cX10_state 57 = .ok (.getfield 34, 3) := by decide +kernel
theorem dX10_state_60 : decode cX10_state 60 = .ok (.getfield 206, 3) := by decide +kernel
theorem dX10_state_63 : decode cX10_state 63 = .ok (.getfield 128, 3) := by decide +kernel
theorem dX10_state_66 : decode cX10_state 66 = .ok (.invokevirtual 210, 3) := by decide +kernel
theorem dX10_state_69 : decode cX10_state 69 = .ok (.aload_n 0, 1) := by decide +kernel
theorem dX10_state_70 : decode cX10_state 70 = .ok (.getfield 43, 3) := by decide +kernel
theorem dX10_state_73 : decode cX10_state 73 = .ok (.aload 6, 2) := by decide +kernel
theorem dX10_state_75 : decode cX10_state 75 = .ok (.iload 4, 2) := by decide +kernel
theorem dX10_state_77 : decode cX10_state 77 = .ok (.invokevirtual 214, 3) := by decide +kernel
theorem dX10_state_80 : decode cX10_state 80 = .ok (.aload_n 0, 1) := by decide +kernel
theorem dX10_state_81 : decode cX10_state 81 = .ok (.getfield 43, 3) := by decide +kernel
theorem dX10_state_84 : decode cX10_state 84 = .ok (.getfield 199, 3) := by decide +kernel
theorem dX10_state_87 : decode cX10_state 87 = .ok (.iload 4, 2) := by decide +kernel
theorem dX10_state_89 : decode cX10_state 89 = .ok (.if_icmp .ne 12, 3) := by decide +kernel
theorem dX10_state_92 : decode cX10_state 92 = .ok (.aload_n 0, 1) := by decide +kernel
theorem dX10_state_93 : decode cX10_state 93 = .ok (.iload 5, 2) := by decide +kernel
theorem dX10_state_95 : decode cX10_state 95 = .ok (.invokevirtual 218, 3) := by decide +kernel
theorem dX10_state_98 : decode cX10_state 98 = .ok (.goto 4, 3) := by decide +kernel
theorem dX10_state_101 : decode cX10_state 101 = .ok (.iconst (-1), 1) := by decide +kernel
theorem dX10_state_102 : decode cX10_state 102 = .ok (.ireturn, 1) := by decide +kernel
theorem q_1011 : Cond.methodLink RX10 218 yX10_stateOf ∈ zTB := zmem 1011 (by decide +kernel) rfl
theorem q_1013 : Cond.instanceMethod yX10_stateOf ∈ zTB := zmem 1013 (by decide +kernel) rfl
theorem q_22 : Cond.selects RX10 yX10_stateOf yX10_stateOf ∈ zTB := zmem 22 (by decide +kernel) rfl
theorem q_1014 : Cond.code yX10_stateOf cX10_stateOf 2 (some .int) ∈ zTB := zmem 1014 (by decide +kernel) rfl
theorem k_RX10_218 : zLv RX10 218 RX10 yX10_stateOf cX10_stateOf 2 (some .int) 1 := ⟨⟨q_1011, q_1013, q_22, q_129, q_1014⟩, rfl, ⟨by decide, by decide⟩, by decide +kernel⟩
def F_X10_state (i : Nat) (Z : Nat → Int → Int) (q : Nat) (X Y : Nat → Int → Int) (R : Nat → Int → Option Nat) (a : Int) (b : Int) (g : Int) (d : Int) (f : Int) : Prop := (∀ i j, rI (X i j)) → (∀ i j, rL (Y i j)) → (((2 ≤ ((2 : Int)) ∧ ((2 : Int)) < 5) ∧ 0 ≤ (g) ∧ (g) < 2 ∧ (g) < X (i + 3) ((2 : Int))) → (((d < 0) → (((R) = wfR Z q R i ((0 ≤ g ∧ g < 2 ∧ g < Z (q + 5) 2) ∧ 0 ≤ d ∧ d ≤ Z (q + 8) (81 * g)) (a) (b)) ∧ (-1) = rState Z q (a) (b) (g) (d) (f) ∧ qK X (X) i)) ∧ ((¬ (d < 0)) → ((((X (i + 23 + 2 * (((2 - 2) * 2 + g) : Int).toNat) 2) < d) → (((R) = wfR Z q R i ((0 ≤ g ∧ g < 2 ∧ g < Z (q + 5) 2) ∧ 0 ≤ d ∧ d ≤ Z (q + 8) (81 * g)) (a) (b)) ∧ (-1) = rState Z q (a) (b) (g) (d) (f) ∧ qK X (X) i)) ∧ ((¬ ((X (i + 23 + 2 * (((2 - 2) * 2 + g) : Int).toNat) 2) < d)) → ((wcQ Z q X i) ∧ (∀ r8 : Bool, ∀ X5 : Nat → Int → Int, (∀ i j, rI (X5 i j)) → ∀ Y6 : Nat → Int → Int, (∀ i j, rL (Y6 i j)) → ∀ R7 : Nat → Int → Option Nat, (((R7) = wgR Z q R i (a) (b)) ∧ r8 = rOk Z q (a) (b) ∧ (r8 = false → (X5) = X ∧ (Y6) = Y) ∧ (r8 = true → qK X (X5) i ∧ cA (hZ Z q (a) (b) 0) q (X5) (Y6) (R7) (i + 157) ∧ (X5) (cn (R7) (i + 157)) 3 = hZ Z q (a) (b) 0 q 28 ∧ (X5) (cn (R7) (i + 157)) 4 = hZ Z q (a) (b) 0 q 29)) → (((r8 = true) → (∀ X10 : Nat → Int → Int, (∀ i j, rI (X10 i j)) → (coX (X10) (i + 157) = (csI ((X5 (cn R7 (i + 157)) 3))).1 ∧ ((X10) (i + 205) 0 = 0 ∧ (X10) (i + 204) 1 = ((X5 (cn R7 (i + 157)) 4)) ∧ (X10) (i + 204) 9 = 0 ∧ (X10) (i + 204) 14 = -1) ∧ ∀ z, z ≠ i + 204 → z ≠ i + 205 → (X10) z = X5 z) → ((cA (hZ Z q a b g) q X10 Y6 R7 (i + 157) ∧ (feR (hZ Z q a b g) q X10 (i + 23 + 2 * (((2 - 2) * 2 + g) : Int).toNat) (rwN ((2 - 2) * 2 + g)) ∧ (i + 23 + 2 * (((2 - 2) * 2 + g) : Int).toNat) + 1 < (i + 157)) ∧ (X10 (i + 204) 9 = 0 ∧ X10 (i + 204) 14 = -1) ∧ ∃ t, coS (hZ Z q a b g) q X10 (i + 157) 1 t) ∧ (∀ X12 : Nat → Int → Int, (∀ i j, rI (X12 i j)) → ∀ Y13 : Nat → Int → Int, (∀ i j, rL (Y13 i j)) → (cfK X10 (X12) Y6 (Y13) (i + 157) ∧ ∃ k : Nat, (k : Int) ≤ mDn (hZ Z q a b g) q ∧ (k = 0 ∨ (k : Int) ≤ (d)) ∧ ∀ t, coS (hZ Z q a b g) q X10 (i + 157) 1 t → goP (hZ Z q a b g) q (X12) (i + 157) (X10 (i + 204) 1) t k ∧ ((d) ≤ k ∨ mDn (hZ Z q a b g) q ≤ k ∨ csOk ((hZ Z q a b g) q 27).toNat (csSq (cx9 (hZ Z q a b g) q (X10 (i + 204) 1)) (fW (hZ Z q a b g) q) (fV (hZ Z q a b g) q) (mDn (hZ Z q a b g) q) t k).2.1 (fW (hZ Z q a b g) q k) (fV (hZ Z q a b g) q k) = false)) → (((¬ (X12 (i + 204) 9) = d) → (((R7) = wfR Z q R i ((0 ≤ g ∧ g < 2 ∧ g < Z (q + 5) 2) ∧ 0 ≤ d ∧ d ≤ Z (q + 8) (81 * g)) (a) (b)) ∧ (-1) = rState Z q (a) (b) (g) (d) (f) ∧ qK X (X12) i)) ∧ ((¬ (¬ (X12 (i + 204) 9) = d)) → ((cA (hZ Z q a b g) q X12 Y13 R7 (i + 157) ∧ ∃ bb t, coS (hZ Z q a b g) q X12 (i + 157) bb t) ∧ (∀ r18 : Int, rI r18 → ∀ X16 : Nat → Int → Int, (∀ i j, rI (X16 i j)) → ∀ Y17 : Nat → Int → Int, (∀ i j, rL (Y17 i j)) → (fvK X12 (X16) Y13 (Y17) (i + 157) ∧ ∀ bb t, coS (hZ Z q a b g) q X12 (i + 157) bb t → r18 = csSt (rCx (hZ Z q a b g) q) (rLd (hZ Z q a b g) q) ((hZ Z q a b g) q 26) t (f)) → (((R7) = wfR Z q R i ((0 ≤ g ∧ g < 2 ∧ g < Z (q + 5) 2) ∧ 0 ≤ d ∧ d ≤ Z (q + 8) (81 * g)) (a) (b)) ∧ r18 = rState Z q (a) (b) (g) (d) (f) ∧ qK X (X16) i))))))))) ∧ ((r8 = false) → (((R7) = wfR Z q R i ((0 ≤ g ∧ g < 2 ∧ g < Z (q + 5) 2) ∧ 0 ≤ d ∧ d ≤ Z (q + 8) (81 * g)) (a) (b)) ∧ (-1) = rState Z q (a) (b) (g) (d) (f) ∧ qK X (X5) i)))))))))) ∧ (¬ ((2 ≤ ((2 : Int)) ∧ ((2 : Int)) < 5) ∧ 0 ≤ (g) ∧ (g) < 2 ∧ (g) < X (i + 3) ((2 : Int))) → (((R) = wfR Z q R i ((0 ≤ g ∧ g < 2 ∧ g < Z (q + 5) 2) ∧ 0 ≤ d ∧ d ≤ Z (q + 8) (81 * g)) (a) (b)) ∧ (-1) = rState Z q (a) (b) (g) (d) (f) ∧ qK X (X) i))
set_option maxHeartbeats 4000000 in
set_option maxRecDepth 100000 in
theorem w_X10_state {l : Launch} {D : va_G} {cy : Nat → ClassId} {bs N : Nat} {sa : Nat → Nat} {kd len : Nat → Nat} {X Y : Nat → Int → Int} {R : Nat → Int → Option Nat} {i : Nat} {Z : Nat → Int → Int} {q : Nat} (hC : zWC N kd len R i) (a : Int) (ha : rI a) (b : Int) (hb : rI b) (g : Int) (hg : rI g) (d : Int) (hd : rI d) (f : Int) (hf : rI f) (hF : F_X10_state i Z q X Y R a b g d f) : Met l yX10_state (.code yX10_state cX10_state 7 (some .int) :: zTB) (zRm 5 134) (zPc D cy bs sa N kd len X Y R [.ref (bs + (i)), .int (zI (a)), .int (zI (b)), .int (zI (g)), .int (zI (d)), .int (zI (f))]) (zQi D cy bs N kd len (fun r st => (((st.2.2) = wfR Z q R i ((0 ≤ g ∧ g < 2 ∧ g < Z (q + 5) 2) ∧ 0 ≤ d ∧ d ≤ Z (q + 8) (81 * g)) (a) (b)) ∧ r = rState Z q (a) (b) (g) (d) (f) ∧ qK X (st.1) i))) 0 0 (zA bs) := by
  refine zstart (by decide) (Nat.le_of_ble_eq_true rfl) ?_
  intro p e s m args below meth c ls C hE hH hr hlk hnm hl hargs
  have hF := hF hH.2.2.1 hH.2.2.2
  have hS : va_S (zA bs) s.heap s.heap [] := va_S.rf
  have hl : lv_has ls 7 [(0, .ref (bs + (i))), (1, .int (zI (a))), (2, .int (zI (b))), (3, .int (zI (g))), (4, .int (zI (d))), (5, .int (zI (f)))] := hl
  refine lv_aload_n C.1 C.2.1 dX10_state_0 rfl (lv_at hl 0 rfl) ?_
  refine zg10_0 C hH (zW_n hC) (zW_k hC) q_569 (zW_td hC).1 dX10_state_1 ?_
  refine zd_iconst C dX10_state_4 ?_
  refine lv_iload_n C.1 C.2.1 dX10_state_5 rfl (lv_at hl 3 rfl) ?_
  refine zgor (zrunV (As := [.int (zI (2)), .int (zI (g))]) (rest := []) C hE hH hS hl.1 (c_X9_rowsAt (l := l) (zW_td hC).2 (2) (by decide) (g) hg) k_RX10_176 ⟨Nat.le_of_ble_eq_true rfl, Nat.le_of_ble_eq_true rfl⟩ (zTold_n0 (zW_td hC).2.1) (zTold_k0 (zW_td hC).2.1) rfl rfl rfl (Nat.le_of_ble_eq_true rfl) dX10_state_6 ⟨Nat.zero_le _, Nat.zero_le _⟩) hS (fun rq Xq Yq Rq H locs hq hH hS => ?_)
  obtain ⟨h92, h91⟩ := hq
  have h93 : Xq = X := congrArg (fun z => z.1) h92
  have h94 : Yq = Y := congrArg (fun z => z.2.1) h92
  have h95 : Rq = R := congrArg (fun z => z.2.2) h92
  rw [h93, h94, h95] at hH
  rw [h91]
  by_cases c1 : (2 ≤ ((2 : Int)) ∧ ((2 : Int)) < 5) ∧ 0 ≤ (g) ∧ (g) < 2 ∧ (g) < X (i + 3) ((2 : Int))
  · rw [if_pos c1]
    have hF := hF.1 c1
    refine lv_astore (lv' := [(6, .ref (bs + (i + 23 + 2 * (((2 - 2) * 2 + g) : Int).toNat))), (0, .ref (bs + (i))), (1, .int (zI (a))), (2, .int (zI (b))), (3, .int (zI (g))), (4, .int (zI (d))), (5, .int (zI (f)))]) C.1 C.2.1 dX10_state_9 hl (by decide) rfl (fun ls hl => ?_)
    refine lv_aload C.1 C.2.1 dX10_state_11 (lv_at hl 0 rfl) ?_
    refine lv_ifnull C.1 C.2.1 dX10_state_13 ?_
    refine lv_iload C.1 C.2.1 dX10_state_16 (lv_at hl 5 rfl) ?_
    refine zd_if_lt C hd 40 dX10_state_18 (by decide) (fun c2 => ?_) (fun c2 => ?_)
    · have hF := hF.1 c2
      refine zd_iconst C dX10_state_40 ?_
      exact zd_iret C hr hlk hH hS (by decide) (hF) dX10_state_41
    · have hF := hF.2 c2
      refine lv_iload C.1 C.2.1 dX10_state_21 (lv_at hl 5 rfl) ?_
      refine lv_aload C.1 C.2.1 dX10_state_23 (lv_at hl 0 rfl) ?_
      refine zg8_2 C hH (zRows_n0 (zTd_rw (zW_td hC).2 (rix_0 c1) (rix_1 c1)).1.2) (zRows_k0 (zTd_rw (zW_td hC).2 (rix_0 c1) (rix_1 c1)).1.2) q_268 dX10_state_25 ?_
      refine zd_icmp_gt C hd (hH.2.2.1 _ _) 40 dX10_state_28 (by decide) (fun c3 => ?_) (fun c3 => ?_)
      · have hF := hF.1 c3
        refine zd_iconst C dX10_state_40 ?_
        exact zd_iret C hr hlk hH hS (by decide) (hF) dX10_state_41
      · have hF := hF.2 c3
        refine lv_aload_n C.1 C.2.1 dX10_state_31 rfl (lv_at hl 1 rfl) ?_
        refine lv_iload_n C.1 C.2.1 dX10_state_32 rfl (lv_at hl 2 rfl) ?_
        refine lv_iload_n C.1 C.2.1 dX10_state_33 rfl (lv_at hl 3 rfl) ?_
        obtain ⟨o4, hF⟩ := hF
        refine zgoi (zrunV (As := [.int (zI (a)), .int (zI (b))]) (rest := []) C hE hH hS hl.1 (c_X10_weigh (l := l) hC (a) ha (b) hb o4) k_RX10_202 ⟨Nat.le_of_ble_eq_true rfl, Nat.le_of_ble_eq_true rfl⟩ (zW_n hC) (zW_k hC) rfl rfl rfl (Nat.le_of_ble_eq_true rfl) dX10_state_34 ⟨Nat.zero_le _, Nat.zero_le _⟩) hS (fun rq X5 Y6 R7 H locs hrq hq hH hS => ?_)
        obtain ⟨r8, h91, hq⟩ := hq
        subst h91
        have hF := hF r8 X5 hH.2.2.1 Y6 hH.2.2.2 R7 hq
        have hC := zWC_wg hC hq.1
        refine zd_ifB_ne C 42 dX10_state_37 (by decide) (fun c9 => ?_) (fun c9 => ?_)
        · have hF := hF.1 c9
          refine lv_aload_n C.1 C.2.1 dX10_state_42 rfl (lv_at hl 1 rfl) ?_
          refine zg10_5 C hH (zW_n hC) (zW_k hC) q_574 (zW_lw hC).2.1 dX10_state_43 ?_
          refine lv_aload_n C.1 C.2.1 dX10_state_46 rfl (lv_at hl 1 rfl) ?_
          refine zg10_4 C hH (zW_n hC) (zW_k hC) q_573 (zW_lw hC).1 dX10_state_47 ?_
          refine zg1_0 C hH (zChart_n0 (zW_lw hC).2.2.2.1.1) (zChart_k0 (zW_lw hC).2.2.2.1.1) q_393 (zChart_net (zW_lw hC).2.2.2.1.1).1 dX10_state_50 ?_
          refine zg6_3 C hH (zNet_n0 (zChart_net (zW_lw hC).2.2.2.1.1).2) (zNet_k0 (zChart_net (zW_lw hC).2.2.2.1.1).2) q_186 dX10_state_53 ?_
          refine lv_aload_n C.1 C.2.1 dX10_state_56 rfl (lv_at hl 1 rfl) ?_
          refine zg10_4 C hH (zW_n hC) (zW_k hC) q_573 (zW_lw hC).1 dX10_state_57 ?_
          refine zg1_0 C hH (zChart_n0 (zW_lw hC).2.2.2.1.1) (zChart_k0 (zW_lw hC).2.2.2.1.1) q_393 (zChart_net (zW_lw hC).2.2.2.1.1).1 dX10_state_60 ?_
          refine zg6_4 C hH (zNet_n0 (zChart_net (zW_lw hC).2.2.2.1.1).2) (zNet_k0 (zChart_net (zW_lw hC).2.2.2.1.1).2) q_189 dX10_state_63 ?_
          refine zgov (zrunV (As := [.int (zI (X5 (cn R7 (i + 157)) 3)), .int (zI (X5 (cn R7 (i + 157)) 4))]) (rest := []) C hE hH hS hl.1 (c_X2_begin (l := l) (zW_lw hC).2.2.2.1 (X5 (cn R7 (i + 157)) 3) (hH.2.2.1 _ _) (X5 (cn R7 (i + 157)) 4) (hH.2.2.1 _ _)) k_RX10_210 ⟨Nat.le_of_ble_eq_true rfl, Nat.le_of_ble_eq_true rfl⟩ (zCo_n (zW_lw hC).2.2.2.1) (zCo_k (zW_lw hC).2.2.2.1) rfl rfl rfl (Nat.le_of_ble_eq_true rfl) dX10_state_66 ⟨Nat.zero_le _, Nat.zero_le _⟩) hS (fun X10 Yq Rq H locs hq hH hS => ?_)
          obtain ⟨h9Y, h9R, hq⟩ := hq
          dsimp only at h9Y h9R
          rw [h9Y, h9R] at hH
          have hF := hF X10 hH.2.2.1 hq
          refine lv_aload_n C.1 C.2.1 dX10_state_69 rfl (lv_at hl 1 rfl) ?_
          refine zg10_5 C hH (zW_n hC) (zW_k hC) q_574 (zW_lw hC).2.1 dX10_state_70 ?_
          refine lv_aload C.1 C.2.1 dX10_state_73 (lv_at hl 0 rfl) ?_
          refine lv_iload C.1 C.2.1 dX10_state_75 (lv_at hl 5 rfl) ?_
          obtain ⟨o11, hF⟩ := hF
          refine zgov (zrunV (As := [.ref (bs + (i + 23 + 2 * (((2 - 2) * 2 + g) : Int).toNat)), .int (zI (d))]) (rest := []) C hE hH hS hl.1 (c_X2_go (l := l) (zW_lw hC).2.2.2.1 (zTd_rw (zW_td hC).2 (rix_0 c1) (rix_1 c1)).1.2 (zTd_rw (zW_td hC).2 (rix_0 c1) (rix_1 c1)).2 (d) hd o11) k_RX10_214 ⟨Nat.le_of_ble_eq_true rfl, Nat.le_of_ble_eq_true rfl⟩ (zCo_n (zW_lw hC).2.2.2.1) (zCo_k (zW_lw hC).2.2.2.1) rfl rfl rfl (Nat.le_of_ble_eq_true rfl) dX10_state_77 ⟨Nat.zero_le _, Nat.zero_le _⟩) hS (fun X12 Y13 Rq H locs hq hH hS => ?_)
          obtain ⟨h9R, hq⟩ := hq
          dsimp only at h9R
          rw [h9R] at hH
          have hF := hF X12 hH.2.2.1 Y13 hH.2.2.2 hq
          refine lv_aload_n C.1 C.2.1 dX10_state_80 rfl (lv_at hl 1 rfl) ?_
          refine zg10_5 C hH (zW_n hC) (zW_k hC) q_574 (zW_lw hC).2.1 dX10_state_81 ?_
          refine zg2_9 C hH (zCo_n (zW_lw hC).2.2.2.1) (zCo_k (zW_lw hC).2.2.2.1) q_464 dX10_state_84 ?_
          refine lv_iload C.1 C.2.1 dX10_state_87 (lv_at hl 5 rfl) ?_
          refine zd_icmp_ne C (hH.2.2.1 _ _) hd 101 dX10_state_89 (by decide) (fun c14 => ?_) (fun c14 => ?_)
          · have hF := hF.1 c14
            refine zd_iconst C dX10_state_101 ?_
            exact zd_iret C hr hlk hH hS (by decide) (hF) dX10_state_102
          · have hF := hF.2 c14
            refine lv_aload_n C.1 C.2.1 dX10_state_92 rfl (lv_at hl 1 rfl) ?_
            refine lv_iload C.1 C.2.1 dX10_state_93 (lv_at hl 6 rfl) ?_
            obtain ⟨o15, hF⟩ := hF
            refine zgoi (zrunV (As := [.int (zI (f))]) (rest := []) C hE hH hS hl.1 (c_X10_stateOf (l := l) hC (f) hf o15) k_RX10_218 ⟨Nat.le_of_ble_eq_true rfl, Nat.le_of_ble_eq_true rfl⟩ (zW_n hC) (zW_k hC) rfl rfl rfl (Nat.le_of_ble_eq_true rfl) dX10_state_95 ⟨Nat.zero_le _, Nat.zero_le _⟩) hS (fun r18 X16 Y17 Rq H locs hrq hq hH hS => ?_)
            obtain ⟨h9R, hq⟩ := hq
            dsimp only at h9R
            rw [h9R] at hH
            have hr18 := hrq
            have hF := hF r18 hrq X16 hH.2.2.1 Y17 hH.2.2.2 hq
            refine lv_goto (tgt := 102) C.1 C.2.1 dX10_state_98 (by decide) ?_
            exact zd_iret C hr hlk hH hS hr18 (hF) dX10_state_102
        · have hF := hF.2 c9
          refine zd_iconst C dX10_state_40 ?_
          exact zd_iret C hr hlk hH hS (by decide) (hF) dX10_state_41
  · rw [if_neg c1]
    have hF := hF.2 c1
    refine lv_astoreN (lv' := [(6, .null), (0, .ref (bs + (i))), (1, .int (zI (a))), (2, .int (zI (b))), (3, .int (zI (g))), (4, .int (zI (d))), (5, .int (zI (f)))]) C.1 C.2.1 dX10_state_9 hl (by decide) rfl (fun ls hl => ?_)
    refine lv_aloadN C.1 C.2.1 dX10_state_11 (lv_at hl 0 rfl) ?_
    refine lv_ifnullN (tgt := 40) C.1 C.2.1 dX10_state_13 (by decide) ?_
    refine zd_iconst C dX10_state_40 ?_
    exact zd_iret C hr hlk hH hS (by decide) (hF) dX10_state_41
theorem v_X10_state {X Y : Nat → Int → Int} {R : Nat → Int → Option Nat} {i : Nat} {Z : Nat → Int → Int} {q : Nat} (a : Int) (ha : rI a) (b : Int) (hb : rI b) (g : Int) (hg : rI g) (d : Int) (hd : rI d) (f : Int) (hf : rI f) (hp : wcQ Z q X i) : F_X10_state i Z q X Y R a b g d f := by
  unfold F_X10_state
  intro hX hY
  obtain ⟨hO, hT, hI⟩ := hp
  have t2 : X (i + 1 + 2) 2 = Z (q + 5) 2 := hT.2.2.1 2 (by decide) (by decide)
  have q2 := hO.1.1 2 (by decide) (by decide)
  have qk0 : qK X X i := ⟨fun _ _ => rfl, hI⟩
  refine ⟨?_, ?_⟩
  · intro c1
    obtain ⟨_, g0, g1, g2⟩ := c1
    have g2 : g < X (i + 1 + 2) 2 := g2
    obtain ⟨gn, rfl⟩ := nat_of g0
    rw [show ((2 - 2) * 2 + (gn : Int)).toNat = gn by omega]
    have em : mIs q Z 2 gn = true := mIn_t.mpr (by omega)
    have hF := hT.2.2.2.2.2.1 gn (by omega)
    rw [show i + 1 + 22 + 2 * gn = i + 23 + 2 * gn by omega] at hF
    have hr := hF.2 g2
    rw [show 162 * (0 : Int) + 81 * (gn : Int) = 81 * gn by omega] at hr
    have hfd := hO.2.1 gn g0 (by omega)
    have sz : X (i + 23 + 2 * gn) 2 = Z (q + 8) (81 * gn) := hr.1
    rw [sz]
    refine ⟨?_, ?_⟩
    · intro c2
      exact ⟨by unfold wfR; rw [if_neg (fun z => by omega)], by unfold rState; rw [mIn_f.mpr (show ¬ (0 ≤ d ∧ d ≤ Z (q + 8) (81 * gn)) by omega), Bool.false_and]; split <;> rfl, qk0⟩
    intro c3
    refine ⟨?_, ?_⟩
    · intro c4
      exact ⟨by unfold wfR; rw [if_neg (fun z => by omega)], by unfold rState; rw [mIn_f.mpr (show ¬ (0 ≤ d ∧ d ≤ Z (q + 8) (81 * gn)) by omega), Bool.false_and]; split <;> rfl, qk0⟩
    intro c5
    refine ⟨?_, ?_⟩
    · exact ⟨hO, hT, hI⟩
    intro r8
    intro X5
    intro rX5
    intro Y6
    intro rY6
    intro R7
    intro h1
    obtain ⟨eR, er, hf, ht⟩ := h1
    refine ⟨?_, ?_⟩
    · intro c6
      obtain ⟨hk, hA, h39, h49⟩ := ht c6
      have e : rOk Z q a b = true := by rw [← er]; exact c6
      have l := cA_l hA
      have b0 := cA_b hA
      have a6 := cA_a hA
      have e27 := hz_27 (Z := Z) (q := q) (n := a) (c := b) (f := 0)
      have e26 := hz_26 (Z := Z) (q := q) (n := a) (c := b) (f := 0)
      intro X10
      intro rX10
      intro h2
      obtain ⟨hX8, ⟨z0, ztie, z9, z14⟩, o8⟩ := h2
      have hAg : cA (hZ Z q a b gn) q X10 Y6 R7 (i + 157) := cA_t hz_f (cA_f (fun z h _ => o8 z (by omega) (by omega)) (fun _ _ => rfl) hA)
      have s0 := hZ_s (X := Z) (i := q) (n := a) (c := b) (f := 0)
      have sg := hZ_s (X := Z) (i := q) (n := a) (c := b) (f := gn)
      have hz := hz_n (n := a) (c := b) (f := gn) hO.1 (by unfold rOk mIs at e; rw [Bool.and_eq_true, mIn_t, mIn_t] at e; omega) (by unfold rOk mIs at e; rw [Bool.and_eq_true, mIn_t, mIn_t] at e; omega)
      rw [h39, s0.2.2.2.2.1, ← sg.2.2.2.2.1] at hX8
      rw [h49, s0.2.2.2.2.2.1, ← sg.2.2.2.2.2.1] at ztie
      have hS8 := begin_S (Z := hZ Z q a b gn) hAg.1.1.1 hz.2.1 hX8 z0
      have oX : ∀ z, (z < i + 157 ∨ i + 261 < z) → X10 z = X z := fun z hz => (o8 z (by omega) (by omega)).trans (hk.1 z hz)
      have hfe : feR (hZ Z q a b gn) q X10 (i + 23 + 2 * gn) 80 := by
        refine fe_R hfd ?_ ?_
        · unfold rowV oRw
          rw [oX _ (by omega)]
          exact hF.1
        · unfold rowR
          rw [oX _ (by omega), oX (i + 23 + 2 * gn + 1) (by omega)]
          exact hr
      refine ⟨?_, ?_⟩
      · refine ⟨hAg, ⟨?_, by omega⟩, ⟨z9, z14⟩, _, hS8⟩
        rw [show rwN ((2 - 2) * 2 + (gn : Int)) = 80 from if_pos (by omega)]
        exact hfe
      intro X12
      intro rX12
      intro Y13
      intro rY13
      intro h3
      obtain ⟨kc, k, kd, kb, hg⟩ := h3
      have G := hg _ hS8
      rw [ztie] at G
      have e204 : X12 (i + 204) 9 = k := G.1.2.2.1
      rw [e204]
      have hA12 := cA_f (fun z h g => kc.1 z g (by omega) (by omega)) kc.2.2 hAg
      obtain ⟨dn, rfl⟩ := nat_of (show 0 ≤ d by omega)
      have hn9 : mDn (hZ Z q a b gn) q = Z (q + 8) (81 * gn) := fe_n
      have GE : goE (hZ Z q a b gn) q X12 (i + 157) dn k := ⟨⟨kd, by omega⟩, G.1.1, G.1.2.1, G.1.2.2.1, G.1.2.2.2, by
        rcases G.2 with h | h | h
        · exact Or.inl h
        · exact Or.inl (by omega)
        · exact Or.inr h⟩
      have pl := goE_pl (m := dn) (by omega) GE
      have E : rState Z q a b gn dn f = (if decide (((rPl (hZ Z q a b gn) q dn).1 : Int) = dn) then csSt (rCx (hZ Z q a b gn) q) (rLd (hZ Z q a b gn) q) (Z (q + 6) (13 * a + 6)) (rPl (hZ Z q a b gn) q dn).2 f else -1) := by
        unfold rState
        rw [if_pos (show (mIs q Z 2 gn && (mIs q Z 1 b && mIs q Z 0 a)) = true by show (mIs q Z 2 gn && rOk Z q a b) = true; rw [em, e]; rfl), mIn_t.mpr (show 0 ≤ (dn : Int) ∧ (dn : Int) ≤ Z (q + 8) (81 * gn) by omega), Bool.true_and, show ((dn : Nat) : Int).toNat = dn by omega]
      rw [pl] at E
      refine ⟨?_, ?_⟩
      · intro c7
        exact ⟨by unfold wfR; rw [if_pos ⟨⟨g0, g1, by omega⟩, by omega, by omega⟩]; exact eR, by rw [E, decide_eq_false c7]; rfl, ⟨fun z hz => (kc.1 z (by omega) (by omega) (by omega)).trans (oX z hz), by unfold chI; rw [kc.1 (i + 157 + 9) (by omega) (by omega) (by omega), kc.1 (i + 157 + 11) (by omega) (by omega) (by omega)]; exact hAg.1.1.2⟩⟩
      intro c8
      refine ⟨?_, ?_⟩
      · exact ⟨hA12, _, _, G.1.2.1⟩
      intro r18
      intro _
      intro X16
      intro rX16
      intro Y17
      intro rY17
      intro h4
      have c8 := Classical.not_not.mp c8
      refine ⟨by unfold wfR; rw [if_pos ⟨⟨g0, g1, by omega⟩, by omega, by omega⟩]; exact eR, ?_, qK_fv h4.1 ⟨fun z hz => (kc.1 z (by omega) (by omega) (by omega)).trans (oX z hz), by unfold chI; rw [kc.1 (i + 157 + 9) (by omega) (by omega) (by omega), kc.1 (i + 157 + 11) (by omega) (by omega) (by omega)]; exact hAg.1.1.2⟩⟩
      rw [E, decide_eq_true c8, if_pos rfl, ← e26]
      have r26 : hZ Z q a b gn q 26 = hZ Z q a b 0 q 26 := by rw [hz_26, hz_26]
      rw [← r26]
      exact h4.2 _ _ G.1.2.1
    intro c9
    obtain ⟨rfl, rfl⟩ := hf c9
    have e : rOk Z q a b = false := by rw [← er]; exact c9
    exact ⟨by unfold wfR; rw [if_pos ⟨⟨g0, g1, by omega⟩, by omega, by omega⟩]; exact eR, by unfold rState; rw [if_neg (fun z => by have z : (mIs q Z 2 gn && rOk Z q a b) = true := z; rw [e, Bool.and_false] at z; exact absurd z (by decide))], qk0⟩
  intro c10
  have em : mIs q Z 2 g = false := mIn_f.mpr (fun z => c10 ⟨by decide, z.1, by omega, by show g < X (i + 1 + 2) 2; omega⟩)
  exact ⟨by unfold wfR; rw [if_neg (fun z => c10 ⟨by decide, z.1.1, z.1.2.1, by show g < X (i + 1 + 2) 2; omega⟩)], by unfold rState; rw [if_neg (fun z => by rw [em, Bool.false_and] at z; exact absurd z (by decide))], qk0⟩
theorem c_X10_state {l : Launch} {D : va_G} {cy : Nat → ClassId} {bs N : Nat} {sa : Nat → Nat} {kd len : Nat → Nat} {X Y : Nat → Int → Int} {R : Nat → Int → Option Nat} {i : Nat} {Z : Nat → Int → Int} {q : Nat} (hC : zWC N kd len R i) (a : Int) (ha : rI a) (b : Int) (hb : rI b) (g : Int) (hg : rI g) (d : Int) (hd : rI d) (f : Int) (hf : rI f) (hp : wcQ Z q X i) : Met l yX10_state (.code yX10_state cX10_state 7 (some .int) :: zTB) (zRm 5 134) (zPc D cy bs sa N kd len X Y R [.ref (bs + (i)), .int (zI (a)), .int (zI (b)), .int (zI (g)), .int (zI (d)), .int (zI (f))]) (zQi D cy bs N kd len (fun r st => (((st.2.2) = wfR Z q R i ((0 ≤ g ∧ g < 2 ∧ g < Z (q + 5) 2) ∧ 0 ≤ d ∧ d ≤ Z (q + 8) (81 * g)) (a) (b)) ∧ r = rState Z q (a) (b) (g) (d) (f) ∧ qK X (st.1) i))) 0 0 (zA bs) := w_X10_state hC a ha b hb g hg d hd f hf (v_X10_state a ha b hb g hg d hd f hf hp)
abbrev cX10_drawn : ByteArray := prog_1_method_18_code
def yX10_drawn : MethodName := ⟨RX10, "drawn", "(IIIII)I"⟩
theorem dX10_drawn_0 : decode cX10_drawn 0 = .ok (.iload 4, 2) := by decide +kernel
theorem dX10_drawn_2 : decode cX10_drawn 2 = .ok (.ifCond .lt 19, 3) := by decide +kernel
theorem dX10_drawn_5 : decode cX10_drawn 5 = .ok (.iload 4, 2) := by decide +kernel
theorem dX10_drawn_7 : decode cX10_drawn 7 = .ok (.bipush 60, 2) := by decide +kernel
theorem dX10_drawn_9 : decode cX10_drawn 9 = .ok (.if_icmp .gt 12, 3) := by decide +kernel
theorem dX10_drawn_12 : decode cX10_drawn 12 = .ok (.aload_n 0, 1) := by decide +kernel
theorem dX10_drawn_13 : decode cX10_drawn 13 = .ok (.iload_n 1, 1) := by decide +kernel
theorem dX10_drawn_14 : decode cX10_drawn 14 = .ok (.iload_n 2, 1) := by decide +kernel
theorem dX10_drawn_15 : decode cX10_drawn 15 = .ok (.invokevirtual 202, 3) := by decide +kernel
theorem dX10_drawn_18 : decode cX10_drawn 18 = .ok (.ifCond .ne 5, 3) := by decide +kernel
theorem dX10_drawn_21 : decode cX10_drawn 21 = .ok (.iconst (-1), 1) := by decide +kernel
theorem dX10_drawn_22 : decode cX10_drawn 22 = .ok (.ireturn, 1) := by decide +kernel
theorem dX10_drawn_23 : decode cX10_drawn 23 = .ok (.aload_n 0, 1) := by decide +kernel
theorem dX10_drawn_24 : decode cX10_drawn 24 = .ok (.getfield 43, 3) := by decide +kernel
theorem dX10_drawn_27 : decode cX10_drawn 27 = .ok (.aload_n 0, 1) := by decide +kernel
theorem dX10_drawn_28 : decode cX10_drawn 28 = .ok (.getfield 34, 3) := by decide +kernel
theorem dX10_drawn_31 : decode cX10_drawn 31 = .ok (.getfield 206, 3) := by decide +kernel
theorem dX10_drawn_34 : decode cX10_drawn 34 = .ok (.getfield 125, 3) := by decide +kernel
theorem dX10_drawn_37 : decode cX10_drawn 37 = .ok (.aload_n 0, 1) := by decide +kernel
theorem dX10_drawn_38 : decode cX10_drawn 38 = .ok (.getfield 34, 3) := by decide +kernel
theorem dX10_drawn_41 : decode cX10_drawn 41 = .ok (.getfield 206, 3) := by decide +kernel
theorem dX10_drawn_44 : decode cX10_drawn 44 = .ok (.getfield 128, 3) := by decide +kernel
theorem dX10_drawn_47 : decode cX10_drawn 47 = .ok (.invokevirtual 210, 3) := by decide +kernel
theorem dX10_drawn_50 : decode cX10_drawn 50 = .ok (.aload_n 0, 1) := by decide +kernel
theorem dX10_drawn_51 : decode cX10_drawn 51 = .ok (.getfield 43, 3) := by decide +kernel
theorem dX10_drawn_54 : decode cX10_drawn 54 = .ok (.iload_n 3, 1) := by decide +kernel
theorem dX10_drawn_55 : decode cX10_drawn 55 = .ok (.iload 4, 2) := by decide +kernel
theorem dX10_drawn_57 : decode cX10_drawn 57 = .ok (.invokevirtual 222, 3) := by decide +kernel
theorem dX10_drawn_60 : decode cX10_drawn 60 = .ok (.aload_n 0, 1) := by decide +kernel
theorem dX10_drawn_61 : decode cX10_drawn 61 = .ok (.iload 5, 2) := by decide +kernel
theorem dX10_drawn_63 : decode cX10_drawn 63 = .ok (.invokevirtual 218, 3) := by decide +kernel
theorem dX10_drawn_66 : decode cX10_drawn 66 = .ok (.ireturn, 1) := by decide +kernel
theorem q_1032 : Cond.methodLink RX10 222 yX2_draw ∈ zTB := zmem 1032 (by decide +kernel) rfl
theorem q_1033 : Cond.instanceMethod yX2_draw ∈ zTB := zmem 1033 (by decide +kernel) rfl
theorem q_1034 : Cond.selects RX2 yX2_draw yX2_draw ∈ zTB := zmem 1034 (by decide +kernel) rfl
theorem q_1035 : Cond.code yX2_draw cX2_draw 6 none ∈ zTB := zmem 1035 (by decide +kernel) rfl
theorem k_RX10_222 : zLv RX10 222 RX2 yX2_draw cX2_draw 6 none 2 := ⟨⟨q_1032, q_1033, q_1034, q_137, q_1035⟩, rfl, ⟨by decide, by decide⟩, by decide +kernel⟩
def F_X10_drawn (i : Nat) (Z : Nat → Int → Int) (q : Nat) (X Y : Nat → Int → Int) (R : Nat → Int → Option Nat) (a : Int) (b : Int) (g : Int) (d : Int) (f : Int) : Prop := (∀ i j, rI (X i j)) → (∀ i j, rL (Y i j)) → ((d < 0) → (((R) = wfR Z q R i (0 ≤ d ∧ d ≤ 60) (a) (b)) ∧ (-1) = rDrawn Z q (a) (b) (g) (d) (f) ∧ qK X (X) i)) ∧ ((¬ (d < 0)) → (((60 < d) → (((R) = wfR Z q R i (0 ≤ d ∧ d ≤ 60) (a) (b)) ∧ (-1) = rDrawn Z q (a) (b) (g) (d) (f) ∧ qK X (X) i)) ∧ ((¬ (60 < d)) → ((wcQ Z q X i) ∧ (∀ r7 : Bool, ∀ X4 : Nat → Int → Int, (∀ i j, rI (X4 i j)) → ∀ Y5 : Nat → Int → Int, (∀ i j, rL (Y5 i j)) → ∀ R6 : Nat → Int → Option Nat, (((R6) = wgR Z q R i (a) (b)) ∧ r7 = rOk Z q (a) (b) ∧ (r7 = false → (X4) = X ∧ (Y5) = Y) ∧ (r7 = true → qK X (X4) i ∧ cA (hZ Z q (a) (b) 0) q (X4) (Y5) (R6) (i + 157) ∧ (X4) (cn (R6) (i + 157)) 3 = hZ Z q (a) (b) 0 q 28 ∧ (X4) (cn (R6) (i + 157)) 4 = hZ Z q (a) (b) 0 q 29)) → (((r7 = true) → (∀ X9 : Nat → Int → Int, (∀ i j, rI (X9 i j)) → (coX (X9) (i + 157) = (csI ((X4 (cn R6 (i + 157)) 3))).1 ∧ ((X9) (i + 205) 0 = 0 ∧ (X9) (i + 204) 1 = ((X4 (cn R6 (i + 157)) 4)) ∧ (X9) (i + 204) 9 = 0 ∧ (X9) (i + 204) 14 = -1) ∧ ∀ z, z ≠ i + 204 → z ≠ i + 205 → (X9) z = X4 z) → ((cA (hZ Z q a b 0) q X9 Y5 R6 (i + 157) ∧ (X9 (i + 204) 9 = 0) ∧ ∃ t, coS (hZ Z q a b 0) q X9 (i + 157) 1 t) ∧ (∀ X11 : Nat → Int → Int, (∀ i j, rI (X11 i j)) → ∀ Y12 : Nat → Int → Int, (∀ i j, rL (Y12 i j)) → (cfK X9 (X11) Y5 (Y12) (i + 157) ∧ ∀ t, coS (hZ Z q a b 0) q X9 (i + 157) 1 t → coS (hZ Z q a b 0) q (X11) (i + 157) 1000 (csDn (cx9 (hZ Z q a b 0) q (X9 (i + 204) 1)) (g, t) (max 0 (min (d) 60)).toNat).2) → ((cA (hZ Z q a b 0) q X11 Y12 R6 (i + 157) ∧ ∃ bb t, coS (hZ Z q a b 0) q X11 (i + 157) bb t) ∧ (∀ r16 : Int, rI r16 → ∀ X14 : Nat → Int → Int, (∀ i j, rI (X14 i j)) → ∀ Y15 : Nat → Int → Int, (∀ i j, rL (Y15 i j)) → (fvK X11 (X14) Y12 (Y15) (i + 157) ∧ ∀ bb t, coS (hZ Z q a b 0) q X11 (i + 157) bb t → r16 = csSt (rCx (hZ Z q a b 0) q) (rLd (hZ Z q a b 0) q) ((hZ Z q a b 0) q 26) t (f)) → (((R6) = wfR Z q R i (0 ≤ d ∧ d ≤ 60) (a) (b)) ∧ r16 = rDrawn Z q (a) (b) (g) (d) (f) ∧ qK X (X14) i))))))) ∧ ((r7 = false) → (((R6) = wfR Z q R i (0 ≤ d ∧ d ≤ 60) (a) (b)) ∧ (-1) = rDrawn Z q (a) (b) (g) (d) (f) ∧ qK X (X4) i))))))))
set_option maxHeartbeats 4000000 in
set_option maxRecDepth 100000 in
theorem w_X10_drawn {l : Launch} {D : va_G} {cy : Nat → ClassId} {bs N : Nat} {sa : Nat → Nat} {kd len : Nat → Nat} {X Y : Nat → Int → Int} {R : Nat → Int → Option Nat} {i : Nat} {Z : Nat → Int → Int} {q : Nat} (hC : zWC N kd len R i) (a : Int) (ha : rI a) (b : Int) (hb : rI b) (g : Int) (hg : rI g) (d : Int) (hd : rI d) (f : Int) (hf : rI f) (hF : F_X10_drawn i Z q X Y R a b g d f) : Met l yX10_drawn (.code yX10_drawn cX10_drawn 6 (some .int) :: zTB) (zRm 5 134) (zPc D cy bs sa N kd len X Y R [.ref (bs + (i)), .int (zI (a)), .int (zI (b)), .int (zI (g)), .int (zI (d)), .int (zI (f))]) (zQi D cy bs N kd len (fun r st => (((st.2.2) = wfR Z q R i (0 ≤ d ∧ d ≤ 60) (a) (b)) ∧ r = rDrawn Z q (a) (b) (g) (d) (f) ∧ qK X (st.1) i))) 0 0 (zA bs) := by
  refine zstart (by decide) (Nat.le_of_ble_eq_true rfl) ?_
  intro p e s m args below meth c ls C hE hH hr hlk hnm hl hargs
  have hF := hF hH.2.2.1 hH.2.2.2
  have hS : va_S (zA bs) s.heap s.heap [] := va_S.rf
  have hl : lv_has ls 6 [(0, .ref (bs + (i))), (1, .int (zI (a))), (2, .int (zI (b))), (3, .int (zI (g))), (4, .int (zI (d))), (5, .int (zI (f)))] := hl
  refine lv_iload C.1 C.2.1 dX10_drawn_0 (lv_at hl 4 rfl) ?_
  refine zd_if_lt C hd 21 dX10_drawn_2 (by decide) (fun c1 => ?_) (fun c1 => ?_)
  · have hF := hF.1 c1
    refine zd_iconst C dX10_drawn_21 ?_
    exact zd_iret C hr hlk hH hS (by decide) (hF) dX10_drawn_22
  · have hF := hF.2 c1
    refine lv_iload C.1 C.2.1 dX10_drawn_5 (lv_at hl 4 rfl) ?_
    refine zd_bipush C (by decide) dX10_drawn_7 ?_
    refine zd_icmp_gt C hd (by decide) 21 dX10_drawn_9 (by decide) (fun c2 => ?_) (fun c2 => ?_)
    · have hF := hF.1 c2
      refine zd_iconst C dX10_drawn_21 ?_
      exact zd_iret C hr hlk hH hS (by decide) (hF) dX10_drawn_22
    · have hF := hF.2 c2
      refine lv_aload_n C.1 C.2.1 dX10_drawn_12 rfl (lv_at hl 0 rfl) ?_
      refine lv_iload_n C.1 C.2.1 dX10_drawn_13 rfl (lv_at hl 1 rfl) ?_
      refine lv_iload_n C.1 C.2.1 dX10_drawn_14 rfl (lv_at hl 2 rfl) ?_
      obtain ⟨o3, hF⟩ := hF
      refine zgoi (zrunV (As := [.int (zI (a)), .int (zI (b))]) (rest := []) C hE hH hS hl.1 (c_X10_weigh (l := l) hC (a) ha (b) hb o3) k_RX10_202 ⟨Nat.le_of_ble_eq_true rfl, Nat.le_of_ble_eq_true rfl⟩ (zW_n hC) (zW_k hC) rfl rfl rfl (Nat.le_of_ble_eq_true rfl) dX10_drawn_15 ⟨Nat.zero_le _, Nat.zero_le _⟩) hS (fun rq X4 Y5 R6 H locs hrq hq hH hS => ?_)
      obtain ⟨r7, h91, hq⟩ := hq
      subst h91
      have hF := hF r7 X4 hH.2.2.1 Y5 hH.2.2.2 R6 hq
      have hC := zWC_wg hC hq.1
      refine zd_ifB_ne C 23 dX10_drawn_18 (by decide) (fun c8 => ?_) (fun c8 => ?_)
      · have hF := hF.1 c8
        refine lv_aload_n C.1 C.2.1 dX10_drawn_23 rfl (lv_at hl 0 rfl) ?_
        refine zg10_5 C hH (zW_n hC) (zW_k hC) q_574 (zW_lw hC).2.1 dX10_drawn_24 ?_
        refine lv_aload_n C.1 C.2.1 dX10_drawn_27 rfl (lv_at hl 0 rfl) ?_
        refine zg10_4 C hH (zW_n hC) (zW_k hC) q_573 (zW_lw hC).1 dX10_drawn_28 ?_
        refine zg1_0 C hH (zChart_n0 (zW_lw hC).2.2.2.1.1) (zChart_k0 (zW_lw hC).2.2.2.1.1) q_393 (zChart_net (zW_lw hC).2.2.2.1.1).1 dX10_drawn_31 ?_
        refine zg6_3 C hH (zNet_n0 (zChart_net (zW_lw hC).2.2.2.1.1).2) (zNet_k0 (zChart_net (zW_lw hC).2.2.2.1.1).2) q_186 dX10_drawn_34 ?_
        refine lv_aload_n C.1 C.2.1 dX10_drawn_37 rfl (lv_at hl 0 rfl) ?_
        refine zg10_4 C hH (zW_n hC) (zW_k hC) q_573 (zW_lw hC).1 dX10_drawn_38 ?_
        refine zg1_0 C hH (zChart_n0 (zW_lw hC).2.2.2.1.1) (zChart_k0 (zW_lw hC).2.2.2.1.1) q_393 (zChart_net (zW_lw hC).2.2.2.1.1).1 dX10_drawn_41 ?_
        refine zg6_4 C hH (zNet_n0 (zChart_net (zW_lw hC).2.2.2.1.1).2) (zNet_k0 (zChart_net (zW_lw hC).2.2.2.1.1).2) q_189 dX10_drawn_44 ?_
        refine zgov (zrunV (As := [.int (zI (X4 (cn R6 (i + 157)) 3)), .int (zI (X4 (cn R6 (i + 157)) 4))]) (rest := []) C hE hH hS hl.1 (c_X2_begin (l := l) (zW_lw hC).2.2.2.1 (X4 (cn R6 (i + 157)) 3) (hH.2.2.1 _ _) (X4 (cn R6 (i + 157)) 4) (hH.2.2.1 _ _)) k_RX10_210 ⟨Nat.le_of_ble_eq_true rfl, Nat.le_of_ble_eq_true rfl⟩ (zCo_n (zW_lw hC).2.2.2.1) (zCo_k (zW_lw hC).2.2.2.1) rfl rfl rfl (Nat.le_of_ble_eq_true rfl) dX10_drawn_47 ⟨Nat.zero_le _, Nat.zero_le _⟩) hS (fun X9 Yq Rq H locs hq hH hS => ?_)
        obtain ⟨h9Y, h9R, hq⟩ := hq
        dsimp only at h9Y h9R
        rw [h9Y, h9R] at hH
        have hF := hF X9 hH.2.2.1 hq
        refine lv_aload_n C.1 C.2.1 dX10_drawn_50 rfl (lv_at hl 0 rfl) ?_
        refine zg10_5 C hH (zW_n hC) (zW_k hC) q_574 (zW_lw hC).2.1 dX10_drawn_51 ?_
        refine lv_iload_n C.1 C.2.1 dX10_drawn_54 rfl (lv_at hl 3 rfl) ?_
        refine lv_iload C.1 C.2.1 dX10_drawn_55 (lv_at hl 4 rfl) ?_
        obtain ⟨o10, hF⟩ := hF
        refine zgov (zrunV (As := [.int (zI (g)), .int (zI (d))]) (rest := []) C hE hH hS hl.1 (c_X2_draw (l := l) (zW_lw hC).2.2.2.1 (g) hg (d) hd o10) k_RX10_222 ⟨Nat.le_of_ble_eq_true rfl, Nat.le_of_ble_eq_true rfl⟩ (zCo_n (zW_lw hC).2.2.2.1) (zCo_k (zW_lw hC).2.2.2.1) rfl rfl rfl (Nat.le_of_ble_eq_true rfl) dX10_drawn_57 ⟨Nat.zero_le _, Nat.zero_le _⟩) hS (fun X11 Y12 Rq H locs hq hH hS => ?_)
        obtain ⟨h9R, hq⟩ := hq
        dsimp only at h9R
        rw [h9R] at hH
        have hF := hF X11 hH.2.2.1 Y12 hH.2.2.2 hq
        refine lv_aload_n C.1 C.2.1 dX10_drawn_60 rfl (lv_at hl 0 rfl) ?_
        refine lv_iload C.1 C.2.1 dX10_drawn_61 (lv_at hl 5 rfl) ?_
        obtain ⟨o13, hF⟩ := hF
        refine zgoi (zrunV (As := [.int (zI (f))]) (rest := []) C hE hH hS hl.1 (c_X10_stateOf (l := l) hC (f) hf o13) k_RX10_218 ⟨Nat.le_of_ble_eq_true rfl, Nat.le_of_ble_eq_true rfl⟩ (zW_n hC) (zW_k hC) rfl rfl rfl (Nat.le_of_ble_eq_true rfl) dX10_drawn_63 ⟨Nat.zero_le _, Nat.zero_le _⟩) hS (fun r16 X14 Y15 Rq H locs hrq hq hH hS => ?_)
        obtain ⟨h9R, hq⟩ := hq
        dsimp only at h9R
        rw [h9R] at hH
        have hr16 := hrq
        have hF := hF r16 hrq X14 hH.2.2.1 Y15 hH.2.2.2 hq
        exact zd_iret C hr hlk hH hS hr16 (hF) dX10_drawn_66
      · have hF := hF.2 c8
        refine zd_iconst C dX10_drawn_21 ?_
        exact zd_iret C hr hlk hH hS (by decide) (hF) dX10_drawn_22
theorem v_X10_drawn {X Y : Nat → Int → Int} {R : Nat → Int → Option Nat} {i : Nat} {Z : Nat → Int → Int} {q : Nat} (a : Int) (ha : rI a) (b : Int) (hb : rI b) (g : Int) (hg : rI g) (d : Int) (hd : rI d) (f : Int) (hf : rI f) (hp : wcQ Z q X i) : F_X10_drawn i Z q X Y R a b g d f := by
  unfold F_X10_drawn
  intro hX hY
  obtain ⟨hO, hT, hI⟩ := hp
  have qk0 : qK X X i := ⟨fun _ _ => rfl, hI⟩
  refine ⟨?_, ?_⟩
  · intro c1
    exact ⟨by unfold wfR; rw [if_neg (fun z => by omega)], by unfold rDrawn; rw [mIn_f.mpr (by omega)]; rfl, qk0⟩
  intro c2
  refine ⟨?_, ?_⟩
  · intro c3
    exact ⟨by unfold wfR; rw [if_neg (fun z => by omega)], by unfold rDrawn; rw [mIn_f.mpr (by omega)]; rfl, qk0⟩
  intro c4
  refine ⟨?_, ?_⟩
  · exact ⟨hO, hT, hI⟩
  intro r7
  intro X4
  intro rX4
  intro Y5
  intro rY5
  intro R6
  intro h1
  obtain ⟨eR, er, hf, ht⟩ := h1
  refine ⟨?_, ?_⟩
  · intro c5
    obtain ⟨hk, hA, h39, h49⟩ := ht c5
    have e : rOk Z q a b = true := by rw [← er]; exact c5
    have l := cA_l hA
    have b0 := cA_b hA
    have a6 := cA_a hA
    have e27 := hz_27 (Z := Z) (q := q) (n := a) (c := b) (f := 0)
    have e26 := hz_26 (Z := Z) (q := q) (n := a) (c := b) (f := 0)
    intro X9
    intro rX9
    intro h2
    obtain ⟨hX8, ⟨z0, ztie, z9, z14⟩, o8⟩ := h2
    have hAg : cA (hZ Z q a b 0) q X9 Y5 R6 (i + 157) := cA_t hz_f (cA_f (fun z h _ => o8 z (by omega) (by omega)) (fun _ _ => rfl) hA)
    have s0 := hZ_s (X := Z) (i := q) (n := a) (c := b) (f := 0)
    have sg := hZ_s (X := Z) (i := q) (n := a) (c := b) (f := 0)
    have hz := hz_n (n := a) (c := b) (f := 0) hO.1 (by unfold rOk mIs at e; rw [Bool.and_eq_true, mIn_t, mIn_t] at e; omega) (by unfold rOk mIs at e; rw [Bool.and_eq_true, mIn_t, mIn_t] at e; omega)
    rw [h39, s0.2.2.2.2.1, ← sg.2.2.2.2.1] at hX8
    rw [h49, s0.2.2.2.2.2.1, ← sg.2.2.2.2.2.1] at ztie
    have hS8 := begin_S (Z := hZ Z q a b 0) hAg.1.1.1 hz.2.1 hX8 z0
    have oX : ∀ z, (z < i + 157 ∨ i + 261 < z) → X9 z = X z := fun z hz => (o8 z (by omega) (by omega)).trans (hk.1 z hz)
    refine ⟨?_, ?_⟩
    · exact ⟨hAg, z9, _, hS8⟩
    intro X11
    intro rX11
    intro Y12
    intro rY12
    intro h3
    obtain ⟨kc, hg⟩ := h3
    have G := hg _ hS8
    rw [ztie] at G
    have hA11 := cA_f (fun z h g => kc.1 z g (by omega) (by omega)) kc.2.2 hAg
    refine ⟨?_, ?_⟩
    · exact ⟨hA11, _, _, G⟩
    intro r16
    intro _
    intro X14
    intro rX14
    intro Y15
    intro rY15
    intro h4
    refine ⟨by unfold wfR; rw [if_pos ⟨by omega, by omega⟩]; exact eR, ?_, qK_fv h4.1 ⟨fun z hz => (kc.1 z (by omega) (by omega) (by omega)).trans (oX z hz), by unfold chI; rw [kc.1 (i + 157 + 9) (by omega) (by omega) (by omega), kc.1 (i + 157 + 11) (by omega) (by omega) (by omega)]; exact hAg.1.1.2⟩⟩
    unfold rDrawn
    rw [mIn_t.mpr (show 0 ≤ d ∧ d ≤ 60 by omega), e, Bool.true_and, if_pos rfl, ← e26]
    rw [show (max 0 (min d 60)).toNat = d.toNat by omega] at G
    exact h4.2 _ _ G
  intro c6
  obtain ⟨rfl, rfl⟩ := hf c6
  have e : rOk Z q a b = false := by rw [← er]; exact c6
  exact ⟨by unfold wfR; rw [if_pos ⟨by omega, by omega⟩]; exact eR, by unfold rDrawn; rw [e, Bool.and_false]; rfl, qk0⟩
theorem c_X10_drawn {l : Launch} {D : va_G} {cy : Nat → ClassId} {bs N : Nat} {sa : Nat → Nat} {kd len : Nat → Nat} {X Y : Nat → Int → Int} {R : Nat → Int → Option Nat} {i : Nat} {Z : Nat → Int → Int} {q : Nat} (hC : zWC N kd len R i) (a : Int) (ha : rI a) (b : Int) (hb : rI b) (g : Int) (hg : rI g) (d : Int) (hd : rI d) (f : Int) (hf : rI f) (hp : wcQ Z q X i) : Met l yX10_drawn (.code yX10_drawn cX10_drawn 6 (some .int) :: zTB) (zRm 5 134) (zPc D cy bs sa N kd len X Y R [.ref (bs + (i)), .int (zI (a)), .int (zI (b)), .int (zI (g)), .int (zI (d)), .int (zI (f))]) (zQi D cy bs N kd len (fun r st => (((st.2.2) = wfR Z q R i (0 ≤ d ∧ d ≤ 60) (a) (b)) ∧ r = rDrawn Z q (a) (b) (g) (d) (f) ∧ qK X (st.1) i))) 0 0 (zA bs) := w_X10_drawn hC a ha b hb g hg d hd f hf (v_X10_drawn a ha b hb g hg d hd f hf hp)
theorem bg_0 {x : Cx} {dw dv : Nat → Int} {dn : Int} {t : Cs} (h0 : t.1 5 = 0) : ∀ k : Nat, (csSq x dw dv dn t k).1 = true → bgN x dw dv dn t k = -1 → (csSq x dw dv dn t k).2.1 5 = 0
  | 0, _, _ => h0
  | k + 1, h1, h2 => by
    have e : bgN x dw dv dn t (k + 1) = if (csSq x dw dv dn t k).1 && decide ((k : Int) < dn) then (if bgN x dw dv dn t k = -1 ∧ (csSq x dw dv dn t (k + 1)).2.1 5 ≠ 0 then (k : Int) else bgN x dw dv dn t k) else bgN x dw dv dn t k := rfl
    have s : csSq x dw dv dn t (k + 1) = if (csSq x dw dv dn t k).1 && (decide ((k : Int) < dn) && csOk (xN x) (csSq x dw dv dn t k).2.1 (dw k) (dv k)) then (true, csDo x (csSq x dw dv dn t k).2 (dw k) (dv k)) else (false, (csSq x dw dv dn t k).2) := rfl
    have hh : ((csSq x dw dv dn t k).1 && (decide ((k : Int) < dn) && csOk (xN x) (csSq x dw dv dn t k).2.1 (dw k) (dv k))) = true := by
      cases c : ((csSq x dw dv dn t k).1 && (decide ((k : Int) < dn) && csOk (xN x) (csSq x dw dv dn t k).2.1 (dw k) (dv k)))
      · rw [c, if_neg (by decide)] at s
        rw [s] at h1
        exact absurd (show false = true from h1) (by decide)
      · rfl
    rw [Bool.and_eq_true, Bool.and_eq_true] at hh
    rw [hh.1, decide_eq_true (of_decide_eq_true hh.2.1), Bool.and_true, if_pos rfl] at e
    rw [h2] at e
    by_cases c : (csSq x dw dv dn t (k + 1)).2.1 5 = 0
    · exact c
    · by_cases d : bgN x dw dv dn t k = -1
      · rw [if_pos ⟨d, c⟩] at e
        omega
      · rw [if_neg (fun z => d z.1)] at e
        exact absurd e.symm d
theorem goE_end {Z : Nat → Int → Int} {q : Nat} {X1 : Nat → Int → Int} {i k : Nat} (h : goE Z q X1 i (mDn Z q) k) : afT Z q (mDn Z q).toNat = (csSq (rCx Z q) (fW Z q) (fV Z q) (mDn Z q) (csI (Z q 28)) k).2 ∧ afB Z q (mDn Z q).toNat = bgN (rCx Z q) (fW Z q) (fV Z q) (mDn Z q) (csI (Z q 28)) k := by
  obtain ⟨⟨h1, _⟩, h3, _, _, _, h4⟩ := h
  unfold afT afB
  rcases h4 with h4 | h4
  · rw [show (mDn Z q).toNat = k by omega]
    exact ⟨rfl, rfl⟩
  · by_cases c : (mDn Z q).toNat = k
    · rw [c]
      exact ⟨rfl, rfl⟩
    · have f := csSq_f (x := rCx Z q) (dw := fW Z q) (dv := fV Z q) (dn := mDn Z q) (t := csI (Z q 28)) (k := k) (Or.inr (Or.inr h4))
      have g := csSq_e (x := rCx Z q) (dw := fW Z q) (dv := fV Z q) (dn := mDn Z q) (t := csI (Z q 28)) (k := k + 1) (by rw [f]) ((mDn Z q).toNat - (k + 1))
      rw [show k + 1 + ((mDn Z q).toNat - (k + 1)) = (mDn Z q).toNat by omega] at g
      refine ⟨by rw [g.1, f], ?_⟩
      rw [g.2]
      show (if (csSq (rCx Z q) (fW Z q) (fV Z q) (mDn Z q) (csI (Z q 28)) k).1 && decide ((k : Int) < mDn Z q) then (if bgN (rCx Z q) (fW Z q) (fV Z q) (mDn Z q) (csI (Z q 28)) k = -1 ∧ (csSq (rCx Z q) (fW Z q) (fV Z q) (mDn Z q) (csI (Z q 28)) (k + 1)).2.1 5 ≠ 0 then (k : Int) else bgN (rCx Z q) (fW Z q) (fV Z q) (mDn Z q) (csI (Z q 28)) k) else bgN (rCx Z q) (fW Z q) (fV Z q) (mDn Z q) (csI (Z q 28)) k) = _
      rw [h3, decide_eq_true (show (k : Int) < mDn Z q by omega), Bool.and_true, if_pos rfl, if_neg]
      rintro ⟨b1, b2⟩
      rw [f] at b2
      exact b2 (bg_0 rfl k h3 b1)
abbrev cX10_after : ByteArray := prog_1_method_20_code
def yX10_after : MethodName := ⟨RX10, "after", "(IIII)I"⟩
theorem dX10_after_0 : decode cX10_after 0 = .ok (.aload_n 0, 1) := by decide +kernel
theorem dX10_after_1 : decode cX10_after 1 = .ok (.iload_n 1, 1) := by decide +kernel
theorem dX10_after_2 : decode cX10_after 2 = .ok (.iload_n 2, 1) := by decide +kernel
theorem dX10_after_3 : decode cX10_after 3 = .ok (.iload_n 3, 1) := by decide +kernel
theorem dX10_after_4 : decode cX10_after 4 = .ok (.invokevirtual 195, 3) := by decide +kernel
theorem dX10_after_7 : decode cX10_after 7 = .ok (.ifCond .ne 6, 3) := by decide +kernel
theorem dX10_after_10 : decode cX10_after 10 = .ok (.bipush (-2), 2) := by decide +kernel
theorem dX10_after_12 : decode cX10_after 12 = .ok (.ireturn, 1) := by decide +kernel
theorem dX10_after_13 : decode cX10_after 13 = .ok (.iload 4, 2) := by decide +kernel
theorem dX10_after_15 : decode cX10_after 15 = .ok (.tableswitch 103 0 5 #[37, 45, 53, 61, 69, 95], 37) := by decide +kernel
theorem dX10_after_52 : decode cX10_after 52 = .ok (.aload_n 0, 1) := by decide +kernel
theorem dX10_after_53 : decode cX10_after 53 = .ok (.getfield 43, 3) := by decide +kernel
theorem dX10_after_56 : decode cX10_after 56 = .ok (.getfield 258, 3) := by decide +kernel
theorem dX10_after_59 : decode cX10_after 59 = .ok (.ireturn, 1) := by decide +kernel
theorem dX10_after_60 : decode cX10_after 60 = .ok (.aload_n 0, 1) := by decide +kernel
theorem dX10_after_61 : decode cX10_after 61 = .ok (.getfield 43, 3) := by decide +kernel
theorem dX10_after_64 : decode cX10_after 64 = .ok (.getfield 238, 3) := by decide +kernel
theorem dX10_after_67 : decode cX10_after 67 = .ok (.ireturn, 1) := by decide +kernel
theorem dX10_after_68 : decode cX10_after 68 = .ok (.aload_n 0, 1) := by decide +kernel
theorem dX10_after_69 : decode cX10_after 69 = .ok (.getfield 43, 3) := by decide +kernel
theorem dX10_after_72 : decode cX10_after 72 = .ok (.getfield 241, 3) := by decide +kernel
theorem dX10_after_75 : decode cX10_after 75 = .ok (.ireturn, 1) := by decide +kernel
theorem dX10_after_76 : decode cX10_after 76 = .ok (.aload_n 0, 1) := by decide +kernel
theorem dX10_after_77 : decode cX10_after 77 = .ok (.getfield 43, 3) := by decide +kernel
theorem dX10_after_80 : decode cX10_after 80 = .ok (.getfield 261, 3) := by decide +kernel
theorem dX10_after_83 : decode cX10_after 83 = .ok (.ireturn, 1) := by decide +kernel
theorem dX10_after_84 : decode cX10_after 84 = .ok (.aload_n 0, 1) := by decide +kernel
theorem dX10_after_85 : decode cX10_after 85 = .ok (.getfield 43, 3) := by decide +kernel
theorem dX10_after_88 : decode cX10_after 88 = .ok (.getfield 264, 3) := by decide +kernel
theorem dX10_after_91 : decode cX10_after 91 = .ok (.aload_n 0, 1) := by decide +kernel
theorem dX10_after_92 : decode cX10_after 92 = .ok (.getfield 43, 3) := by decide +kernel
theorem dX10_after_95 : decode cX10_after 95 = .ok (.getfield 267, 3) := by decide +kernel
theorem dX10_after_98 : decode cX10_after 98 = .ok (.ior, 1) := by decide +kernel
theorem dX10_after_99 : decode cX10_after 99 = .ok (.aload_n 0, 1) := by decide +kernel
theorem dX10_after_100 : decode cX10_after 100 = .ok (.getfield 43, 3) := by decide +kernel
theorem dX10_after_103 : decode cX10_after 103 = .ok (.getfield 231, 3) := by decide +kernel
theorem dX10_after_106 : decode cX10_after 106 = .ok (.iconst (-1), 1) := by decide +kernel
theorem dX10_after_107 : decode cX10_after 107 = .ok (.ixor, 1) := by decide +kernel
theorem dX10_after_108 : decode cX10_after 108 = .ok (.iand, 1) := by decide +kernel
theorem dX10_after_109 : decode cX10_after 109 = .ok (.ireturn, 1) := by decide +kernel
theorem dX10_after_110 : decode cX10_after 110 = .ok (.aload_n 0, 1) := by decide +kernel
theorem dX10_after_111 : decode cX10_after 111 = .ok (.getfield 43, 3) := by decide +kernel
theorem dX10_after_114 : decode cX10_after 114 = .ok (.getfield 270, 3) := by decide +kernel
theorem dX10_after_117 : decode cX10_after 117 = .ok (.ireturn, 1) := by decide +kernel
theorem dX10_after_118 : decode cX10_after 118 = .ok (.bipush (-2), 2) := by decide +kernel
theorem dX10_after_120 : decode cX10_after 120 = .ok (.ireturn, 1) := by decide +kernel
theorem q_470 : Cond.fieldLink RX10 258 RX2 "switches" "I" ∈ zTB := zmem 470 (by decide +kernel) rfl
theorem q_472 : Cond.fieldLink RX10 261 RX2 "longest" "I" ∈ zTB := zmem 472 (by decide +kernel) rfl
theorem q_455 : Cond.fieldLink RX10 264 RX2 "heads" "I" ∈ zTB := zmem 455 (by decide +kernel) rfl
theorem q_457 : Cond.fieldLink RX10 267 RX2 "bodies" "I" ∈ zTB := zmem 457 (by decide +kernel) rfl
theorem q_474 : Cond.fieldLink RX10 270 RX2 "first" "I" ∈ zTB := zmem 474 (by decide +kernel) rfl
def F_X10_after (i : Nat) (Z : Nat → Int → Int) (q : Nat) (X Y : Nat → Int → Int) (R : Nat → Int → Option Nat) (a : Int) (b : Int) (g : Int) (d : Int) : Prop := (∀ i j, rI (X i j)) → (∀ i j, rL (Y i j)) → (wcQ Z q X i) ∧ (∀ r5 : Bool, ∀ X2 : Nat → Int → Int, (∀ i j, rI (X2 i j)) → ∀ Y3 : Nat → Int → Int, (∀ i j, rL (Y3 i j)) → ∀ R4 : Nat → Int → Option Nat, (((R4) = wfR Z q R i (0 ≤ (g) ∧ (g) < 2 ∧ (g) < Z (q + 5) 2) (a) (b)) ∧ r5 = (mIs q Z 2 (g) && rOk Z q (a) (b)) ∧ qK X (X2) i ∧ (r5 = true → cA (hZ Z q (a) (b) (g)) q (X2) (Y3) (R4) (i + 157) ∧ ∃ k : Nat, goE (hZ Z q (a) (b) (g)) q (X2) (i + 157) (mDn (hZ Z q (a) (b) (g)) q) k)) → (((r5 = true) → ((d = 0 → (((R4) = wfR Z q R i (0 ≤ g ∧ g < 2 ∧ g < Z (q + 5) 2) (a) (b)) ∧ (X2 (i + 204) 12) = rAfter Z q (a) (b) (g) (d) ∧ qK X (X2) i)) ∧ (d = 1 → (((R4) = wfR Z q R i (0 ≤ g ∧ g < 2 ∧ g < Z (q + 5) 2) (a) (b)) ∧ (X2 (i + 204) 10) = rAfter Z q (a) (b) (g) (d) ∧ qK X (X2) i)) ∧ (d = 2 → (((R4) = wfR Z q R i (0 ≤ g ∧ g < 2 ∧ g < Z (q + 5) 2) (a) (b)) ∧ (X2 (i + 204) 11) = rAfter Z q (a) (b) (g) (d) ∧ qK X (X2) i)) ∧ (d = 3 → (((R4) = wfR Z q R i (0 ≤ g ∧ g < 2 ∧ g < Z (q + 5) 2) (a) (b)) ∧ (X2 (i + 204) 13) = rAfter Z q (a) (b) (g) (d) ∧ qK X (X2) i)) ∧ (d = 4 → (((R4) = wfR Z q R i (0 ≤ g ∧ g < 2 ∧ g < Z (q + 5) 2) (a) (b)) ∧ (zAnd (zOr (X2 (i + 204) 5) (X2 (i + 204) 6)) (zXor (X2 (i + 204) 7) ((-1)))) = rAfter Z q (a) (b) (g) (d) ∧ qK X (X2) i)) ∧ (d = 5 → (((R4) = wfR Z q R i (0 ≤ g ∧ g < 2 ∧ g < Z (q + 5) 2) (a) (b)) ∧ (X2 (i + 204) 14) = rAfter Z q (a) (b) (g) (d) ∧ qK X (X2) i)) ∧ ((d < 0 ∨ 5 < d) → (((R4) = wfR Z q R i (0 ≤ g ∧ g < 2 ∧ g < Z (q + 5) 2) (a) (b)) ∧ (-2) = rAfter Z q (a) (b) (g) (d) ∧ qK X (X2) i)))) ∧ ((r5 = false) → (((R4) = wfR Z q R i (0 ≤ g ∧ g < 2 ∧ g < Z (q + 5) 2) (a) (b)) ∧ (-2) = rAfter Z q (a) (b) (g) (d) ∧ qK X (X2) i))))
set_option maxHeartbeats 4000000 in
set_option maxRecDepth 100000 in
theorem w_X10_after {l : Launch} {D : va_G} {cy : Nat → ClassId} {bs N : Nat} {sa : Nat → Nat} {kd len : Nat → Nat} {X Y : Nat → Int → Int} {R : Nat → Int → Option Nat} {i : Nat} {Z : Nat → Int → Int} {q : Nat} (hC : zWC N kd len R i) (a : Int) (ha : rI a) (b : Int) (hb : rI b) (g : Int) (hg : rI g) (d : Int) (hd : rI d) (hF : F_X10_after i Z q X Y R a b g d) : Met l yX10_after (.code yX10_after cX10_after 5 (some .int) :: zTB) (zRm 6 158) (zPc D cy bs sa N kd len X Y R [.ref (bs + (i)), .int (zI (a)), .int (zI (b)), .int (zI (g)), .int (zI (d))]) (zQi D cy bs N kd len (fun r st => (((st.2.2) = wfR Z q R i (0 ≤ g ∧ g < 2 ∧ g < Z (q + 5) 2) (a) (b)) ∧ r = rAfter Z q (a) (b) (g) (d) ∧ qK X (st.1) i))) 0 0 (zA bs) := by
  refine zstart (by decide) (Nat.le_of_ble_eq_true rfl) ?_
  intro p e s m args below meth c ls C hE hH hr hlk hnm hl hargs
  have hF := hF hH.2.2.1 hH.2.2.2
  have hS : va_S (zA bs) s.heap s.heap [] := va_S.rf
  have hl : lv_has ls 5 [(0, .ref (bs + (i))), (1, .int (zI (a))), (2, .int (zI (b))), (3, .int (zI (g))), (4, .int (zI (d)))] := hl
  refine lv_aload_n C.1 C.2.1 dX10_after_0 rfl (lv_at hl 0 rfl) ?_
  refine lv_iload_n C.1 C.2.1 dX10_after_1 rfl (lv_at hl 1 rfl) ?_
  refine lv_iload_n C.1 C.2.1 dX10_after_2 rfl (lv_at hl 2 rfl) ?_
  refine lv_iload_n C.1 C.2.1 dX10_after_3 rfl (lv_at hl 3 rfl) ?_
  obtain ⟨o1, hF⟩ := hF
  refine zgoi (zrunV (As := [.int (zI (a)), .int (zI (b)), .int (zI (g))]) (rest := []) C hE hH hS hl.1 (c_X10_goAll (l := l) hC (a) ha (b) hb (g) hg o1) k_RX10_195 ⟨Nat.le_of_ble_eq_true rfl, Nat.le_of_ble_eq_true rfl⟩ (zW_n hC) (zW_k hC) rfl rfl rfl (Nat.le_of_ble_eq_true rfl) dX10_after_4 ⟨Nat.zero_le _, Nat.zero_le _⟩) hS (fun rq X2 Y3 R4 H locs hrq hq hH hS => ?_)
  obtain ⟨r5, h91, hq⟩ := hq
  subst h91
  have hF := hF r5 X2 hH.2.2.1 Y3 hH.2.2.2 R4 hq
  have hC := zWC_wf hC hq.1
  refine zd_ifB_ne C 13 dX10_after_7 (by decide) (fun c6 => ?_) (fun c6 => ?_)
  · have hF := hF.1 c6
    refine lv_iload C.1 C.2.1 dX10_after_13 (lv_at hl 4 rfl) ?_
    by_cases c7_0 : d = 0
    · have hF := hF.1 c7_0
      refine zd_tabI C hd 52 (0) c7_0 dX10_after_15 (by decide) (by decide) rfl (by decide) ?_
      refine lv_aload_n C.1 C.2.1 dX10_after_52 rfl (lv_at hl 0 rfl) ?_
      refine zg10_5 C hH (zW_n hC) (zW_k hC) q_574 (zW_lw hC).2.1 dX10_after_53 ?_
      refine zg2_12 C hH (zCo_n (zW_lw hC).2.2.2.1) (zCo_k (zW_lw hC).2.2.2.1) q_470 dX10_after_56 ?_
      exact zd_iret C hr hlk hH hS (hH.2.2.1 _ _) (hF) dX10_after_59
    · have hF := hF.2
      by_cases c7_1 : d = 1
      · have hF := hF.1 c7_1
        refine zd_tabI C hd 60 (1) c7_1 dX10_after_15 (by decide) (by decide) rfl (by decide) ?_
        refine lv_aload_n C.1 C.2.1 dX10_after_60 rfl (lv_at hl 0 rfl) ?_
        refine zg10_5 C hH (zW_n hC) (zW_k hC) q_574 (zW_lw hC).2.1 dX10_after_61 ?_
        refine zg2_10 C hH (zCo_n (zW_lw hC).2.2.2.1) (zCo_k (zW_lw hC).2.2.2.1) q_466 dX10_after_64 ?_
        exact zd_iret C hr hlk hH hS (hH.2.2.1 _ _) (hF) dX10_after_67
      · have hF := hF.2
        by_cases c7_2 : d = 2
        · have hF := hF.1 c7_2
          refine zd_tabI C hd 68 (2) c7_2 dX10_after_15 (by decide) (by decide) rfl (by decide) ?_
          refine lv_aload_n C.1 C.2.1 dX10_after_68 rfl (lv_at hl 0 rfl) ?_
          refine zg10_5 C hH (zW_n hC) (zW_k hC) q_574 (zW_lw hC).2.1 dX10_after_69 ?_
          refine zg2_11 C hH (zCo_n (zW_lw hC).2.2.2.1) (zCo_k (zW_lw hC).2.2.2.1) q_468 dX10_after_72 ?_
          exact zd_iret C hr hlk hH hS (hH.2.2.1 _ _) (hF) dX10_after_75
        · have hF := hF.2
          by_cases c7_3 : d = 3
          · have hF := hF.1 c7_3
            refine zd_tabI C hd 76 (3) c7_3 dX10_after_15 (by decide) (by decide) rfl (by decide) ?_
            refine lv_aload_n C.1 C.2.1 dX10_after_76 rfl (lv_at hl 0 rfl) ?_
            refine zg10_5 C hH (zW_n hC) (zW_k hC) q_574 (zW_lw hC).2.1 dX10_after_77 ?_
            refine zg2_13 C hH (zCo_n (zW_lw hC).2.2.2.1) (zCo_k (zW_lw hC).2.2.2.1) q_472 dX10_after_80 ?_
            exact zd_iret C hr hlk hH hS (hH.2.2.1 _ _) (hF) dX10_after_83
          · have hF := hF.2
            by_cases c7_4 : d = 4
            · have hF := hF.1 c7_4
              refine zd_tabI C hd 84 (4) c7_4 dX10_after_15 (by decide) (by decide) rfl (by decide) ?_
              refine lv_aload_n C.1 C.2.1 dX10_after_84 rfl (lv_at hl 0 rfl) ?_
              refine zg10_5 C hH (zW_n hC) (zW_k hC) q_574 (zW_lw hC).2.1 dX10_after_85 ?_
              refine zg2_5 C hH (zCo_n (zW_lw hC).2.2.2.1) (zCo_k (zW_lw hC).2.2.2.1) q_455 dX10_after_88 ?_
              refine lv_aload_n C.1 C.2.1 dX10_after_91 rfl (lv_at hl 0 rfl) ?_
              refine zg10_5 C hH (zW_n hC) (zW_k hC) q_574 (zW_lw hC).2.1 dX10_after_92 ?_
              refine zg2_6 C hH (zCo_n (zW_lw hC).2.2.2.1) (zCo_k (zW_lw hC).2.2.2.1) q_457 dX10_after_95 ?_
              refine zd_ior C dX10_after_98 ?_
              refine lv_aload_n C.1 C.2.1 dX10_after_99 rfl (lv_at hl 0 rfl) ?_
              refine zg10_5 C hH (zW_n hC) (zW_k hC) q_574 (zW_lw hC).2.1 dX10_after_100 ?_
              refine zg2_7 C hH (zCo_n (zW_lw hC).2.2.2.1) (zCo_k (zW_lw hC).2.2.2.1) q_459 dX10_after_103 ?_
              refine zd_iconst C dX10_after_106 ?_
              refine zd_ixor C dX10_after_107 ?_
              refine zd_iand C dX10_after_108 ?_
              exact zd_iret C hr hlk hH hS (zI_rg _) (hF) dX10_after_109
            · have hF := hF.2
              by_cases c7_5 : d = 5
              · have hF := hF.1 c7_5
                refine zd_tabI C hd 110 (5) c7_5 dX10_after_15 (by decide) (by decide) rfl (by decide) ?_
                refine lv_aload_n C.1 C.2.1 dX10_after_110 rfl (lv_at hl 0 rfl) ?_
                refine zg10_5 C hH (zW_n hC) (zW_k hC) q_574 (zW_lw hC).2.1 dX10_after_111 ?_
                refine zg2_14 C hH (zCo_n (zW_lw hC).2.2.2.1) (zCo_k (zW_lw hC).2.2.2.1) q_474 dX10_after_114 ?_
                exact zd_iret C hr hlk hH hS (hH.2.2.1 _ _) (hF) dX10_after_117
              · have hF := hF.2
                have c7 := tsw_0_5 (d) c7_0 c7_1 c7_2 c7_3 c7_4 c7_5
                have hF := hF c7
                refine zd_tabO C hd 118 c7 dX10_after_15 (by decide) ?_
                refine zd_bipush C (by decide) dX10_after_118 ?_
                exact zd_iret C hr hlk hH hS (by decide) (hF) dX10_after_120
  · have hF := hF.2 c6
    refine zd_bipush C (by decide) dX10_after_10 ?_
    exact zd_iret C hr hlk hH hS (by decide) (hF) dX10_after_12
theorem v_X10_after {X Y : Nat → Int → Int} {R : Nat → Int → Option Nat} {i : Nat} {Z : Nat → Int → Int} {q : Nat} (a : Int) (ha : rI a) (b : Int) (hb : rI b) (g : Int) (hg : rI g) (d : Int) (hd : rI d) (hp : wcQ Z q X i) : F_X10_after i Z q X Y R a b g d := by
  unfold F_X10_after
  intro hX hY
  refine ⟨?_, ?_⟩
  · exact hp
  intro r5
  intro X2
  intro rX2
  intro Y3
  intro rY3
  intro R4
  intro h1
  obtain ⟨eR, er, hk, ht⟩ := h1
  refine ⟨?_, ?_⟩
  · intro c1
    obtain ⟨hA, k, hE⟩ := ht c1
    have e := er.symm.trans c1
    have AT := goE_end hE
    have cx := hE.2.2.1.1.1
    have E : (0 ≤ d ∧ d ≤ 5) → rAfter Z q a b g d = afOf (hZ Z q a b g) q d := fun hd => by
      unfold rAfter
      rw [if_pos]
      rw [Bool.and_eq_true]
      exact ⟨e, mIn_t.mpr hd⟩
    refine ⟨?_, ?_⟩
    · intro c2
      refine ⟨eR, ?_, hk⟩
      rw [E (by omega)]
      unfold afOf
      rw [if_pos (show d = 0 by omega), AT.1]
      exact congrFun cx 8
    refine ⟨?_, ?_⟩
    · intro c3
      refine ⟨eR, ?_, hk⟩
      rw [E (by omega)]
      unfold afOf
      rw [if_neg (show ¬ d = 0 by omega), if_pos (show d = 1 by omega), AT.1]
      exact congrFun cx 6
    refine ⟨?_, ?_⟩
    · intro c4
      refine ⟨eR, ?_, hk⟩
      rw [E (by omega)]
      unfold afOf
      rw [if_neg (show ¬ d = 0 by omega), if_neg (show ¬ d = 1 by omega), if_pos (show d = 2 by omega), AT.1]
      exact congrFun cx 7
    refine ⟨?_, ?_⟩
    · intro c5
      refine ⟨eR, ?_, hk⟩
      rw [E (by omega)]
      unfold afOf
      rw [if_neg (show ¬ d = 0 by omega), if_neg (show ¬ d = 1 by omega), if_neg (show ¬ d = 2 by omega), if_pos (show d = 3 by omega), AT.1]
      exact congrFun cx 9
    refine ⟨?_, ?_⟩
    · intro c6
      refine ⟨eR, ?_, hk⟩
      rw [E (by omega)]
      unfold afOf
      rw [if_neg (show ¬ d = 0 by omega), if_neg (show ¬ d = 1 by omega), if_neg (show ¬ d = 2 by omega), if_neg (show ¬ d = 3 by omega), if_pos (show d = 4 by omega), AT.1]
      rw [← cx]
      rfl
    refine ⟨?_, ?_⟩
    · intro c7
      refine ⟨eR, ?_, hk⟩
      rw [E (by omega)]
      unfold afOf
      rw [if_neg (show ¬ d = 0 by omega), if_neg (show ¬ d = 1 by omega), if_neg (show ¬ d = 2 by omega), if_neg (show ¬ d = 3 by omega), if_neg (show ¬ d = 4 by omega), AT.2]
      exact hE.2.2.2.2.1
    intro c8
    exact ⟨eR, by unfold rAfter; rw [mIn_f.mpr (show ¬ (0 ≤ d ∧ d ≤ 5) by omega), Bool.and_false]; rfl, hk⟩
  intro c9
  have e := er.symm.trans c9
  exact ⟨eR, by unfold rAfter; rw [if_neg (fun z => by rw [Bool.and_eq_true] at z; have z1 : (mIs q Z 2 g && rOk Z q a b) = true := z.1; rw [e] at z1; exact absurd z1 (by decide))], hk⟩
theorem c_X10_after {l : Launch} {D : va_G} {cy : Nat → ClassId} {bs N : Nat} {sa : Nat → Nat} {kd len : Nat → Nat} {X Y : Nat → Int → Int} {R : Nat → Int → Option Nat} {i : Nat} {Z : Nat → Int → Int} {q : Nat} (hC : zWC N kd len R i) (a : Int) (ha : rI a) (b : Int) (hb : rI b) (g : Int) (hg : rI g) (d : Int) (hd : rI d) (hp : wcQ Z q X i) : Met l yX10_after (.code yX10_after cX10_after 5 (some .int) :: zTB) (zRm 6 158) (zPc D cy bs sa N kd len X Y R [.ref (bs + (i)), .int (zI (a)), .int (zI (b)), .int (zI (g)), .int (zI (d))]) (zQi D cy bs N kd len (fun r st => (((st.2.2) = wfR Z q R i (0 ≤ g ∧ g < 2 ∧ g < Z (q + 5) 2) (a) (b)) ∧ r = rAfter Z q (a) (b) (g) (d) ∧ qK X (st.1) i))) 0 0 (zA bs) := w_X10_after hC a ha b hb g hg d hd (v_X10_after a ha b hb g hg d hd hp)
