/-! DEEDS -/
def whC (x : Cx) (t : Cs) : Prop := ∀ e, 1 ≤ e → e < xN x → mHas (t.1 3) e = true → mHas (t.1 3) (xP x e) = true
/-- the course in the world is t, and t is a good one -/
def coS (Z : Nat → Int → Int) (q : Nat) (X : Nat → Int → Int) (i : Nat) (b : Int) (t : Cs) : Prop := coEq (coT X i) t (Z q 27).toNat ∧ coK (cx9 Z q (X (i + 47) 1)) t ∧ oCS t (Z q 27).toNat b b ∧ oWh (cx9 Z q 0) t ∧ whC (cx9 Z q 0) t
def ac14 (X X1 : Nat → Int → Int) (i : Nat) : Prop := X1 (i + 47) 9 = X (i + 47) 9 + 1 ∧ X1 (i + 47) 14 = if X (i + 47) 14 = -1 ∧ X1 (i + 47) 8 ≠ 0 then X (i + 47) 9 else X (i + 47) 14
theorem csMk_tie {Z : Nat → Int → Int} {q : Nat} {tie : Int} {t : Cs} : ∀ k, csMk (cx9 Z q tie) t k = csMk (cx9 Z q 0) t k
  | 0 => rfl
  | k + 1 => by
    show (if k = 0 then csMk (cx9 Z q tie) t k else if csWt (cx9 Z q tie) (csMk (cx9 Z q tie) t k) k then csBc (csMk (cx9 Z q tie) t k) k else csMk (cx9 Z q tie) t k) = if k = 0 then csMk (cx9 Z q 0) t k else if csWt (cx9 Z q 0) (csMk (cx9 Z q 0) t k) k then csBc (csMk (cx9 Z q 0) t k) k else csMk (cx9 Z q 0) t k
    rw [csMk_tie k]
    rfl
theorem oCS_d0 {t : Cs} {n : Nat} {b d w v : Int} (h : oCS t n b d) (hv : w = 3 → 0 ≤ v ∧ v ≤ 1) : oCS (csD0 t w v) n b d := by
  unfold csD0
  split
  · rename_i g
    exact ⟨h.1, h.2.1, hv g⟩
  · split
    · exact ⟨h.1, h.2.1, h.2.2⟩
    · split
      · exact ⟨h.1, h.2.1, h.2.2⟩
      · exact ⟨h.1, h.2.1, h.2.2⟩
theorem csD0_3 {t : Cs} {w v : Int} : (csD0 t w v).1 3 = t.1 3 := by
  unfold csD0
  split
  · rfl
  · split
    · rfl
    · split <;> rfl
theorem oCS_q {s t : Cs} {n : Nat} {b d : Int} (h : s.1 = t.1) (ho : oCS t n b d) : oCS s n b d := by
  unfold oCS at ho ⊢
  rw [h]
  exact ho
theorem oCS_up {t : Cs} {n : Nat} {b d b' d' : Int} (hb : b ≤ b') (hd : d ≤ d') (h : oCS t n b d) : oCS t n b' d' := ⟨oCs_up hb hd h.1, h.2⟩
theorem whC_mk {x : Cx} {t : Cs} (hn : xN x ≤ 15) (hP : sPar (xP x) (xN x - 1)) (h : whC x t) : ∀ q, q ≤ xN x → whC x (csMk x t q)
  | 0, _ => h
  | q + 1, hq => by
    have ih := whC_mk hn hP h q (by omega)
    show whC x (if q = 0 then csMk x t q else if csWt x (csMk x t q) q then csBc (csMk x t q) q else csMk x t q)
    by_cases g : q = 0
    · rw [if_pos g]
      exact ih
    · rw [if_neg g]
      cases c : csWt x (csMk x t q) q
      · exact ih
      · rw [if_pos rfl]
        have e1 : ∀ j : Nat, j < 15 → mHas ((csBc (csMk x t q) q).1 3) j = (mHas ((csMk x t q).1 3) j || decide (j = q)) := fun j hj => by
          show mHas (zOr ((csMk x t q).1 3) (zShl 1 q)) j = _
          exact mHas_set (by omega) (by omega)
        intro e h1 h2 he
        have hp := hP e h1 (by omega)
        rw [e1 e (by omega)] at he
        rw [e1 _ (by omega)]
        by_cases g2 : e = q
        · subst g2
          unfold csWt at c
          rw [Bool.and_eq_true] at c
          rw [c.2]
          rfl
        · rw [decide_eq_false g2, Bool.or_false] at he
          rw [ih e h1 h2 he]
          rfl
theorem whC_do {x : Cx} {t : Cs} {w v : Int} (hn : xN x ≤ 15) (hP : sPar (xP x) (xN x - 1)) (h : whC x t) : whC x (csC x (csMk x (csD0 t w v) (xN x))) := by
  have h0 : whC x (csD0 t w v) := fun e h1 h2 he => by
    rw [csD0_3] at he ⊢
    exact h e h1 h2 he
  exact fun e h1 h2 he => whC_mk hn hP h0 _ (Nat.le_refl _) e h1 h2 he
theorem coS_do {Z : Nat → Int → Int} {q : Nat} {X X1 : Nat → Int → Int} {i : Nat} {a b : Int} (hv : vZ Z q) (hX : ∀ i j, rI (X i j)) (hT : coT X1 i = csC (cx9 Z q (X (i + 47) 1)) (csMk (cx9 Z q 0) (csD0 (coT X i) a b) (Z q 27).toNat)) (h1 : X1 (i + 47) 1 = X (i + 47) 1) (ha : 0 ≤ a ∧ a ≤ 3) (hab : a = 3 → 0 ≤ b ∧ b ≤ 1) (hb : a ≠ 3 → 0 ≤ b ∧ b < 15) {bb : Int} {t : Cs} (h : coS Z q X i bb t) : coS Z q X1 i (bb + 15) (csDo (cx9 Z q (X (i + 47) 1)) t a b) := by
  obtain ⟨hE, hK, hO, hW, hC⟩ := h
  have hn := vZ_n hv
  have hp : sPar (rP Z q) ((Z q 27).toNat - 1) := fun k g1 g2 => vZ_P hv g1 (by omega)
  have r : ∀ s, s < 10 → rI (t.1 s) := fun s hs => by
    rw [← hE.1]
    show rI (if s < 10 then X (i + 47) (coSl.getD s 0) else 0)
    rw [if_pos hs]
    exact hX _ _
  have h9 : 0 ≤ t.1 9 := hO.1.2.2.2.2.1.1
  have e := csDo_e hK h9 (r 1 (by decide)) (r 2 (by decide)) ha hb hn.2.2
  have hk := csDo_k hK h9 (r 1 (by decide)) (r 2 (by decide)) ha hb hn.2.2 hp
  refine ⟨?_, by rw [h1]; exact hk, oCS_do (x := cx9 Z q (X (i + 47) 1)) (by show 0 < (Z q 27).toNat; omega) hn.2.2 hO hab, oWh_do (x := cx9 Z q (X (i + 47) 1)) (by show 0 < (Z q 27).toNat; omega) hn.2.2 hW, ?_⟩
  · rw [e, hT, csMk_tie (tie := X (i + 47) 1)]
    have h0 : mHas ((csMk (cx9 Z q 0) (csD0 t a b) (Z q 27).toNat).1 3) ((0 : Nat) : Int) = true := (csMk_far (cx9 Z q 0) (csD0 t a b) hn.2.2 (Z q 27).toNat (Nat.le_refl _)).2.2 0 (by decide) (by rw [csD0_3]; exact hO.2.1)
    have m := csMk_c (x := cx9 Z q 0) (csD0_c hE a b) hn.2.2 (Z q 27).toNat (Nat.le_refl _)
    exact csC_c (x := cx9 Z q (X (i + 47) 1)) m (by show 0 < (Z q 27).toNat; omega) h0
  · rw [e, csMk_tie (tie := X (i + 47) 1)]
    have hC0 : whC (cx9 Z q 0) (csD0 t a b) := fun e h1 h2 he => by
      rw [csD0_3] at he ⊢
      exact hC e h1 h2 he
    have m := whC_mk (x := cx9 Z q 0) hn.2.2 hp hC0 (Z q 27).toNat (Nat.le_refl _)
    exact fun e h1 h2 he => m e h1 h2 he
section ACT
variable {Z : Nat → Int → Int} {q : Nat} {X XD XW XC XG XF Y YC : Nat → Int → Int} {R : Nat → Int → Option Nat} {i : Nat} {a b bb r : Int} {t : Cs}
theorem act_1 (hq : cA Z q X Y R i) (hS : coS Z q X i bb t) (hbb : bb ≤ 900000) (hab : a = 3 → 0 ≤ b ∧ b ≤ 1) (eD : coT XD i = csD0 (coT X i) a b) (oD : ∀ z, z ≠ i + 47 → XD z = X z) : cA Z q XD Y R i ∧ oCS (coT XD i) (Z q 27).toNat 1000000 1000000 := by
  refine ⟨cA_f (fun z h _ => oD z (by omega)) (fun _ _ => rfl) hq, ?_⟩
  rw [eD]
  exact oCS_d0 (oCS_q hS.1.1 (oCS_up (by omega) (by omega) hS.2.2.1)) hab
theorem act_2 (hq : cA Z q XD Y R i) (hS : coS Z q X i bb t) (ho : oCS (coT XD i) (Z q 27).toNat 1000000 1000000) (eD : coT XD i = csD0 (coT X i) a b) (hW : coT XW i = csMk (cx9 Z q 0) (coT XD i) (Z q 27).toNat ∧ (∀ z, z ≠ i + 47 → z ≠ i + 48 → XW z = XD z) ∧ ∀ s, s ≠ 2 → s ≠ 7 → XW (i + 47) s = XD (i + 47) s) : cA Z q XW Y R i ∧ clF Z q (XW (i + 47) 7) ∧ oCS (coT XW i) (Z q 27).toNat 2000000 2000000 := by
  have hn := vZ_n hq.1.1.1
  have hp : sPar (rP Z q) ((Z q 27).toNat - 1) := fun k g1 g2 => vZ_P hq.1.1.1 g1 (by omega)
  have hO : oCS (coT XW i) (Z q 27).toNat 1000000 1000015 := by
    rw [hW.1]
    exact oCS_mk (x := cx9 Z q 0) hn.2.2 ho
  refine ⟨cA_f (fun z h _ => hW.2.1 z (by omega) (by omega)) (fun _ _ => rfl) hq, ⟨hO.2.1, fun e h1 h2 he => ?_⟩, oCS_up (by decide) (by decide) hO⟩
  have hC : whC (cx9 Z q 0) (csD0 (coT X i) a b) := fun e h1 h2 he => by
    rw [csD0_3, hS.1.1] at he ⊢
    exact hS.2.2.2.2 e h1 h2 he
  have g := whC_mk (x := cx9 Z q 0) hn.2.2 hp hC _ (Nat.le_refl _) e h1 (show e < (Z q 27).toNat by omega)
  rw [← eD] at g
  have e3 : XW (i + 47) 7 = (csMk (cx9 Z q 0) (coT XD i) (Z q 27).toNat).1 3 := by rw [← hW.1]; rfl
  rw [e3] at he ⊢
  exact g he
theorem tip_s (h : r = ((sTip (XW (i + 47) 4) (rP Z q) (rW Z q) (rG Z q) (fun e => mHas (XW (i + 47) 7) e) (fun x y : Nat => decide (x < y)) (Z q 27).toNat : Nat) : Int)) (h1 : ¬ XW (i + 47) 1 = 0) : r = ((xTip (cx9 Z q (XW (i + 47) 1)) (coT XW i) : Nat) : Int) := by
  rw [h]
  have e : (fun x y : Nat => decide (x < y)) = ahT (XW (i + 47) 1) (coT XW i).2 := funext fun x => funext fun y => by
    unfold ahT
    rw [if_neg h1]
    exact decide_eq_decide.mpr ⟨fun _ => by omega, fun _ => by omega⟩
  rw [e]
  rfl
theorem tip_r (h : r = ((sTip (XW (i + 47) 4) (rP Z q) (rW Z q) (rG Z q) (fun e => mHas (XW (i + 47) 7) e) (fun x y : Nat => decide (XW (i + 48) x < XW (i + 48) y)) (Z q 27).toNat : Nat) : Int)) (h1 : XW (i + 47) 1 = 0) : r = ((xTip (cx9 Z q (XW (i + 47) 1)) (coT XW i) : Nat) : Int) := by
  rw [h]
  have e : (fun x y : Nat => decide (XW (i + 48) x < XW (i + 48) y)) = ahT (XW (i + 47) 1) (coT XW i).2 := funext fun x => funext fun y => by
    unfold ahT
    rw [if_pos h1]
    rfl
  rw [e]
  rfl
theorem act_3 (hq : cA Z q XW Y R i) (ho : oCS (coT XW i) (Z q 27).toNat 2000000 2000000) (hr : r = ((xTip (cx9 Z q (XW (i + 47) 1)) (coT XW i) : Nat) : Int)) (hk : fvK XW XC Y YC i) : cA Z q XC YC R i ∧ (0 ≤ r ∧ r < Z q 27) ∧ oCS (coT XC i) (Z q 27).toNat 2000000 2000000 := by
  have hn := vZ_n hq.1.1.1
  have b : xTip (cx9 Z q (XW (i + 47) 1)) (coT XW i) < (Z q 27).toNat := csTip_b (n := (Z q 27).toNat) (show 0 < (Z q 27).toNat by omega)
  exact ⟨cA_k hk hq, by omega, oCS_q (show (coT XC i).1 = (coT XW i).1 from coX_k (hk.1 (i + 47) (by omega))) ho⟩
theorem act_4 (hq : cA Z q X Y R i) (hX : ∀ i j, rI (X i j)) (ha : 0 ≤ a ∧ a ≤ 3) (hab : a = 3 → 0 ≤ b ∧ b ≤ 1) (hOk : csOk (Z q 27).toNat (coX X i) a b = true) (eD : coT XD i = csD0 (coT X i) a b) (oD : ∀ z, z ≠ i + 47 → XD z = X z) (sD : ∀ s, s = 1 ∨ s = 9 ∨ s = 14 → XD (i + 47) s = X (i + 47) s)
    (hW : coT XW i = csMk (cx9 Z q 0) (coT XD i) (Z q 27).toNat ∧ (∀ z, z ≠ i + 47 → z ≠ i + 48 → XW z = XD z) ∧ ∀ s, s ≠ 2 → s ≠ 7 → XW (i + 47) s = XD (i + 47) s) (hr : r = ((xTip (cx9 Z q (XW (i + 47) 1)) (coT XW i) : Nat) : Int)) (hk : fvK XW XC Y YC i)
    (hG : coX XG i = csCh (rP Z q) (coX XC i) r.toNat ∧ (∀ z, z ≠ i + 47 → XG z = XC z) ∧ XG (i + 47) 1 = XC (i + 47) 1 ∧ XG (i + 47) 9 = XC (i + 47) 9 ∧ XG (i + 47) 14 = if XC (i + 47) 14 = -1 ∧ r ≠ 0 then XC (i + 47) 9 else XC (i + 47) 14) (eF : XF = zU XG (i + 47) 9 (XG (i + 47) 9 + 1)) :
    true = csOk (Z q 27).toNat (coX X i) a b ∧ (true = false → XF = X ∧ YC = Y) ∧ (true = true → cfK X XF Y YC i ∧ ac14 X XF i ∧ ∀ bb t, coS Z q X i bb t → coS Z q XF i (bb + 15) (csDo (cx9 Z q (X (i + 47) 1)) t a b)) := by
  have hn := vZ_n hq.1.1.1
  have cW : ∀ s, XC (i + 47) s = XW (i + 47) s := fun s => by rw [hk.1 _ (by omega)]
  have s1 : XW (i + 47) 1 = X (i + 47) 1 := by rw [hW.2.2 1 (by decide) (by decide), sD 1 (by omega)]
  have s9 : XW (i + 47) 9 = X (i + 47) 9 := by rw [hW.2.2 9 (by decide) (by decide), sD 9 (by omega)]
  have s14 : XW (i + 47) 14 = X (i + 47) 14 := by rw [hW.2.2 14 (by decide) (by decide), sD 14 (by omega)]
  have f1 : XF (i + 47) 1 = X (i + 47) 1 := by rw [eF, zU_n (by omega), hG.2.2.1, cW, s1]
  have f8 : XF (i + 47) 8 = r := by
    have e : coX XG i 5 = csCh (rP Z q) (coX XC i) r.toNat 5 := by rw [hG.1]
    have e2 : coX XG i 5 = XG (i + 47) 8 := rfl
    rw [eF, zU_n (by omega), ← e2, e]
    show ((r.toNat : Nat) : Int) = r
    omega
  have hF : coT XF i = csC (cx9 Z q (X (i + 47) 1)) (csMk (cx9 Z q 0) (csD0 (coT X i) a b) (Z q 27).toNat) := by
    rw [← eD, ← hW.1]
    refine Prod.ext ?_ (funext fun j => ?_)
    · show coX XF i = csCh (rP Z q) (coX XW i) (xTip (cx9 Z q (X (i + 47) 1)) (coT XW i))
      rw [coX_N (X := XG) (fun s hs => by rw [eF, zU_n (fun g => (by decide : ∀ s, s ∈ coSl → s ≠ 9) s hs g.2)]), hG.1, coX_k (hk.1 (i + 47) (by omega)), hr, s1]
      rfl
    · show XF (i + 48) j = XW (i + 48) j
      rw [eF, zU_o (by omega), hG.2.1 _ (by omega), hk.1 _ (by omega)]
  have hb : a ≠ 3 → 0 ≤ b ∧ b < 15 := fun g => by
    unfold csOk at hOk
    rw [if_neg g, Bool.and_eq_true, mIn_t] at hOk
    omega
  refine ⟨hOk.symm, (fun g => by cases g), fun _ => ⟨⟨fun z h1 h2 h3 => ?_, f1, hk.2⟩, ⟨?_, ?_⟩, fun bb t h => coS_do hq.1.1.1 hX hF f1 ha hab hb h⟩⟩
  · rw [eF, zU_o h2, hG.2.1 z h2, hk.1 z h1, hW.2.1 z h2 h3, oD z h2]
  · rw [eF, zU_s, hG.2.2.2.1, cW, s9]
  · rw [f8, eF, zU_n (by omega), hG.2.2.2.2, cW, cW, s14, s9]
end ACT
abbrev cX2_act : ByteArray := prog_4_method_4_code
def yX2_act : MethodName := ⟨RX2, "act", "(II)Z"⟩
theorem dX2_act_0 : decode cX2_act 0 = .ok (.aload_n 0, 1) := by decide +kernel
theorem dX2_act_1 : decode cX2_act 1 = .ok (.iload_n 1, 1) := by decide +kernel
theorem dX2_act_2 : decode cX2_act 2 = .ok (.iload_n 2, 1) := by decide +kernel
theorem dX2_act_3 : decode cX2_act 3 = .ok (.invokevirtual 72, 3) := by decide +kernel
theorem dX2_act_6 : decode cX2_act 6 = .ok (.ifCond .ne 5, 3) := by decide +kernel
theorem dX2_act_9 : decode cX2_act 9 = .ok (.iconst 0, 1) := by decide +kernel
theorem dX2_act_10 : decode cX2_act 10 = .ok (.ireturn, 1) := by decide +kernel
theorem dX2_act_11 : decode cX2_act 11 = .ok (.iload_n 1, 1) := by decide +kernel
theorem dX2_act_12 : decode cX2_act 12 = .ok (.tableswitch 89 0 2 #[28, 43, 58], 28) := by decide +kernel
theorem dX2_act_40 : decode cX2_act 40 = .ok (.aload_n 0, 1) := by decide +kernel
theorem dX2_act_41 : decode cX2_act 41 = .ok (.dup, 1) := by decide +kernel
theorem dX2_act_42 : decode cX2_act 42 = .ok (.getfield 26, 3) := by decide +kernel
theorem dX2_act_45 : decode cX2_act 45 = .ok (.iconst 1, 1) := by decide +kernel
theorem dX2_act_46 : decode cX2_act 46 = .ok (.iload_n 2, 1) := by decide +kernel
theorem dX2_act_47 : decode cX2_act 47 = .ok (.ishl, 1) := by decide +kernel
theorem dX2_act_48 : decode cX2_act 48 = .ok (.ior, 1) := by decide +kernel
theorem dX2_act_49 : decode cX2_act 49 = .ok (.putfield 26, 3) := by decide +kernel
theorem dX2_act_52 : decode cX2_act 52 = .ok (.goto 54, 3) := by decide +kernel
theorem dX2_act_55 : decode cX2_act 55 = .ok (.aload_n 0, 1) := by decide +kernel
theorem dX2_act_56 : decode cX2_act 56 = .ok (.dup, 1) := by decide +kernel
theorem dX2_act_57 : decode cX2_act 57 = .ok (.getfield 29, 3) := by decide +kernel
theorem dX2_act_60 : decode cX2_act 60 = .ok (.iconst 1, 1) := by decide +kernel
theorem dX2_act_61 : decode cX2_act 61 = .ok (.iload_n 2, 1) := by decide +kernel
theorem dX2_act_62 : decode cX2_act 62 = .ok (.ishl, 1) := by decide +kernel
theorem dX2_act_63 : decode cX2_act 63 = .ok (.ior, 1) := by decide +kernel
theorem dX2_act_64 : decode cX2_act 64 = .ok (.putfield 29, 3) := by decide +kernel
theorem dX2_act_67 : decode cX2_act 67 = .ok (.goto 39, 3) := by decide +kernel
theorem dX2_act_70 : decode cX2_act 70 = .ok (.aload_n 0, 1) := by decide +kernel
theorem dX2_act_71 : decode cX2_act 71 = .ok (.dup, 1) := by decide +kernel
theorem dX2_act_72 : decode cX2_act 72 = .ok (.getfield 26, 3) := by decide +kernel
theorem dX2_act_75 : decode cX2_act 75 = .ok (.iconst 1, 1) := by decide +kernel
theorem dX2_act_76 : decode cX2_act 76 = .ok (.iload_n 2, 1) := by decide +kernel
theorem dX2_act_77 : decode cX2_act 77 = .ok (.ishl, 1) := by decide +kernel
theorem dX2_act_78 : decode cX2_act 78 = .ok (.iconst (-1), 1) := by decide +kernel
theorem dX2_act_79 : decode cX2_act 79 = .ok (.ixor, 1) := by decide +kernel
theorem dX2_act_80 : decode cX2_act 80 = .ok (.iand, 1) := by decide +kernel
theorem dX2_act_81 : decode cX2_act 81 = .ok (.putfield 26, 3) := by decide +kernel
theorem dX2_act_84 : decode cX2_act 84 = .ok (.aload_n 0, 1) := by decide +kernel
theorem dX2_act_85 : decode cX2_act 85 = .ok (.dup, 1) := by decide +kernel
theorem dX2_act_86 : decode cX2_act 86 = .ok (.getfield 29, 3) := by decide +kernel
theorem dX2_act_89 : decode cX2_act 89 = .ok (.iconst 1, 1) := by decide +kernel
theorem dX2_act_90 : decode cX2_act 90 = .ok (.iload_n 2, 1) := by decide +kernel
theorem dX2_act_91 : decode cX2_act 91 = .ok (.ishl, 1) := by decide +kernel
theorem dX2_act_92 : decode cX2_act 92 = .ok (.iconst (-1), 1) := by decide +kernel
theorem dX2_act_93 : decode cX2_act 93 = .ok (.ixor, 1) := by decide +kernel
theorem dX2_act_94 : decode cX2_act 94 = .ok (.iand, 1) := by decide +kernel
theorem dX2_act_95 : decode cX2_act 95 = .ok (.putfield 29, 3) := by decide +kernel
theorem dX2_act_98 : decode cX2_act 98 = .ok (.goto 8, 3) := by decide +kernel
theorem dX2_act_101 : decode cX2_act 101 = .ok (.aload_n 0, 1) := by decide +kernel
theorem dX2_act_102 : decode cX2_act 102 = .ok (.iload_n 2, 1) := by decide +kernel
theorem dX2_act_103 : decode cX2_act 103 = .ok (.putfield 19, 3) := by decide +kernel
theorem dX2_act_106 : decode cX2_act 106 = .ok (.aload_n 0, 1) := by decide +kernel
theorem dX2_act_107 : decode cX2_act 107 = .ok (.invokevirtual 75, 3) := by decide +kernel
theorem dX2_act_110 : decode cX2_act 110 = .ok (.aload_n 0, 1) := by decide +kernel
theorem dX2_act_111 : decode cX2_act 111 = .ok (.aload_n 0, 1) := by decide +kernel
theorem dX2_act_112 : decode cX2_act 112 = .ok (.getfield 15, 3) := by decide +kernel
theorem dX2_act_115 : decode cX2_act 115 = .ok (.aload_n 0, 1) := by decide +kernel
theorem dX2_act_116 : decode cX2_act 116 = .ok (.getfield 32, 3) := by decide +kernel
theorem dX2_act_119 : decode cX2_act 119 = .ok (.aload_n 0, 1) := by decide +kernel
theorem dX2_act_120 : decode cX2_act 120 = .ok (.getfield 19, 3) := by decide +kernel
theorem dX2_act_123 : decode cX2_act 123 = .ok (.aload_n 0, 1) := by decide +kernel
theorem dX2_act_124 : decode cX2_act 124 = .ok (.getfield 23, 3) := by decide +kernel
theorem dX2_act_127 : decode cX2_act 127 = .ok (.ifCond .ne 10, 3) := by decide +kernel
theorem dX2_act_130 : decode cX2_act 130 = .ok (.aload_n 0, 1) := by decide +kernel
theorem dX2_act_131 : decode cX2_act 131 = .ok (.getfield 9, 3) := by decide +kernel
theorem dX2_act_134 : decode cX2_act 134 = .ok (.goto 6, 3) := by decide +kernel
theorem dX2_act_137 : decode cX2_act 137 = .ok (.getstatic 78, 3) := by decide +kernel
theorem dX2_act_140 : decode cX2_act 140 = .ok (.invokevirtual 81, 3) := by decide +kernel
theorem dX2_act_143 : decode cX2_act 143 = .ok (.invokevirtual 87, 3) := by decide +kernel
theorem dX2_act_146 : decode cX2_act 146 = .ok (.aload_n 0, 1) := by decide +kernel
theorem dX2_act_147 : decode cX2_act 147 = .ok (.dup, 1) := by decide +kernel
theorem dX2_act_148 : decode cX2_act 148 = .ok (.getfield 41, 3) := by decide +kernel
theorem dX2_act_151 : decode cX2_act 151 = .ok (.iconst 1, 1) := by decide +kernel
theorem dX2_act_152 : decode cX2_act 152 = .ok (.iadd, 1) := by decide +kernel
theorem dX2_act_153 : decode cX2_act 153 = .ok (.putfield 41, 3) := by decide +kernel
theorem dX2_act_156 : decode cX2_act 156 = .ok (.iconst 1, 1) := by decide +kernel
theorem dX2_act_157 : decode cX2_act 157 = .ok (.ireturn, 1) := by decide +kernel
theorem q_969 : Cond.methodLink RX2 72 yX2_may ∈ zTB := zmem 969 (by decide +kernel) rfl
theorem q_971 : Cond.instanceMethod yX2_may ∈ zTB := zmem 971 (by decide +kernel) rfl
theorem q_16 : Cond.selects RX2 yX2_may yX2_may ∈ zTB := zmem 16 (by decide +kernel) rfl
theorem q_972 : Cond.code yX2_may cX2_may 3 (some .boolean) ∈ zTB := zmem 972 (by decide +kernel) rfl
theorem k_RX2_72 : zLv RX2 72 RX2 yX2_may cX2_may 3 (some .boolean) 2 := ⟨⟨q_969, q_971, q_16, q_137, q_972⟩, rfl, ⟨by decide, by decide⟩, by decide +kernel⟩
theorem q_974 : Cond.methodLink RX2 75 yX2_becomeWhole ∈ zTB := zmem 974 (by decide +kernel) rfl
theorem q_976 : Cond.instanceMethod yX2_becomeWhole ∈ zTB := zmem 976 (by decide +kernel) rfl
theorem q_17 : Cond.selects RX2 yX2_becomeWhole yX2_becomeWhole ∈ zTB := zmem 17 (by decide +kernel) rfl
theorem q_977 : Cond.code yX2_becomeWhole cX2_becomeWhole 2 none ∈ zTB := zmem 977 (by decide +kernel) rfl
theorem k_RX2_75 : zLv RX2 75 RX2 yX2_becomeWhole cX2_becomeWhole 2 none 0 := ⟨⟨q_974, q_976, q_17, q_137, q_977⟩, rfl, ⟨by decide, by decide⟩, by decide +kernel⟩
theorem q_996 : Cond.methodLink RX2 87 yX2_goTo ∈ zTB := zmem 996 (by decide +kernel) rfl
theorem q_998 : Cond.instanceMethod yX2_goTo ∈ zTB := zmem 998 (by decide +kernel) rfl
theorem q_21 : Cond.selects RX2 yX2_goTo yX2_goTo ∈ zTB := zmem 21 (by decide +kernel) rfl
theorem q_999 : Cond.code yX2_goTo cX2_goTo 3 none ∈ zTB := zmem 999 (by decide +kernel) rfl
theorem k_RX2_87 : zLv RX2 87 RX2 yX2_goTo cX2_goTo 3 none 1 := ⟨⟨q_996, q_998, q_21, q_137, q_999⟩, rfl, ⟨by decide, by decide⟩, by decide +kernel⟩
theorem tsw_0_2 (z : Int) (h0 : ¬ z = 0) (h1 : ¬ z = 1) (h2 : ¬ z = 2) : z < 0 ∨ 2 < z := by omega
def F_X2_act (i : Nat) (Z : Nat → Int → Int) (q : Nat) (X Y : Nat → Int → Int) (R : Nat → Int → Option Nat) (a : Int) (b : Int) : Prop := (∀ i j, rI (X i j)) → (∀ i j, rL (Y i j)) → (cA Z q X Y R i ∧ (0 ≤ (a) ∧ (a) ≤ 3) ∧ ((a) = 3 → 0 ≤ (b) ∧ (b) ≤ 1)) ∧ ((((csOk (Z q 27).toNat (coX X i) (a) (b)) = true) → ((a = 0 → (∀ X4 : Nat → Int → Int, X4 = zU X (i + 47) 5 (zOr (X (i + 47) 5) (zShl (1) (b))) → (∀ i j, rI (X4 i j)) → ((cA Z q X4 Y R i ∧ oCS (coT X4 i) (Z q 27).toNat 1000000 1000000) ∧ (∀ X6 : Nat → Int → Int, (∀ i j, rI (X6 i j)) → (coT (X6) i = csMk (cx9 Z q 0) (coT X4 i) (Z q 27).toNat ∧ (∀ z, z ≠ i + 47 → z ≠ i + 48 → (X6) z = X4 z) ∧ ∀ s, s ≠ 2 → s ≠ 7 → (X6) (i + 47) s = X4 (i + 47) s) → (((¬ (X6 (i + 47) 1) = 0) → ((cA Z q X6 Y R i ∧ clF Z q ((X6 (i + 47) 7))) ∧ (∀ r11 : Int, rI r11 → ∀ X9 : Nat → Int → Int, (∀ i j, rI (X9 i j)) → ∀ Y10 : Nat → Int → Int, (∀ i j, rL (Y10 i j)) → (r11 = ((sTip ((X6 (i + 47) 4)) (rP Z q) (rW Z q) (rG Z q) (fun e => mHas ((X6 (i + 47) 7)) e) (fun x y : Nat => decide (x < y)) (Z q 27).toNat : Nat) : Int) ∧ fvK X6 (X9) Y (Y10) i) → ((cA Z q X9 Y10 R i ∧ (0 ≤ (r11) ∧ (r11) < Z q 27) ∧ oCS (coT X9 i) (Z q 27).toNat 2000000 2000000) ∧ (∀ X13 : Nat → Int → Int, (∀ i j, rI (X13 i j)) → (coX (X13) i = csCh (rP Z q) (coX X9 i) ((r11)).toNat ∧ (∀ z, z ≠ i + 47 → (X13) z = X9 z) ∧ (X13) (i + 47) 1 = X9 (i + 47) 1 ∧ (X13) (i + 47) 9 = X9 (i + 47) 9 ∧ (X13) (i + 47) 14 = if X9 (i + 47) 14 = -1 ∧ (r11) ≠ 0 then X9 (i + 47) 9 else X9 (i + 47) 14) → ((rI ((X13 (i + 47) 9) + 1)) ∧ (∀ X15 : Nat → Int → Int, X15 = zU X13 (i + 47) 9 ((X13 (i + 47) 9) + 1) → (∀ i j, rI (X15 i j)) → (true = csOk (Z q 27).toNat (coX X i) (a) (b) ∧ (true = false → (X15) = X ∧ (Y10) = Y) ∧ (true = true → cfK X (X15) Y (Y10) i ∧ ac14 X (X15) i ∧ ∀ bb t, coS Z q X i bb t → coS Z q (X15) i (bb + 15) (csDo (cx9 Z q (X (i + 47) 1)) t (a) (b))))))))))) ∧ ((¬ (¬ (X6 (i + 47) 1) = 0)) → ((cA Z q X6 Y R i ∧ clF Z q ((X6 (i + 47) 7)) ∧ (i + 48) ≠ i + 16 ∧ (i + 48) ≠ i) ∧ (∀ r19 : Int, rI r19 → ∀ X17 : Nat → Int → Int, (∀ i j, rI (X17 i j)) → ∀ Y18 : Nat → Int → Int, (∀ i j, rL (Y18 i j)) → (r19 = ((sTip ((X6 (i + 47) 4)) (rP Z q) (rW Z q) (rG Z q) (fun e => mHas ((X6 (i + 47) 7)) e) (fun x y : Nat => decide (X6 (i + 48) x < X6 (i + 48) y)) (Z q 27).toNat : Nat) : Int) ∧ fvK X6 (X17) Y (Y18) i) → ((cA Z q X17 Y18 R i ∧ (0 ≤ (r19) ∧ (r19) < Z q 27) ∧ oCS (coT X17 i) (Z q 27).toNat 2000000 2000000) ∧ (∀ X21 : Nat → Int → Int, (∀ i j, rI (X21 i j)) → (coX (X21) i = csCh (rP Z q) (coX X17 i) ((r19)).toNat ∧ (∀ z, z ≠ i + 47 → (X21) z = X17 z) ∧ (X21) (i + 47) 1 = X17 (i + 47) 1 ∧ (X21) (i + 47) 9 = X17 (i + 47) 9 ∧ (X21) (i + 47) 14 = if X17 (i + 47) 14 = -1 ∧ (r19) ≠ 0 then X17 (i + 47) 9 else X17 (i + 47) 14) → ((rI ((X21 (i + 47) 9) + 1)) ∧ (∀ X23 : Nat → Int → Int, X23 = zU X21 (i + 47) 9 ((X21 (i + 47) 9) + 1) → (∀ i j, rI (X23 i j)) → (true = csOk (Z q 27).toNat (coX X i) (a) (b) ∧ (true = false → (X23) = X ∧ (Y18) = Y) ∧ (true = true → cfK X (X23) Y (Y18) i ∧ ac14 X (X23) i ∧ ∀ bb t, coS Z q X i bb t → coS Z q (X23) i (bb + 15) (csDo (cx9 Z q (X (i + 47) 1)) t (a) (b)))))))))))))))) ∧ (a = 1 → (∀ X24 : Nat → Int → Int, X24 = zU X (i + 47) 6 (zOr (X (i + 47) 6) (zShl (1) (b))) → (∀ i j, rI (X24 i j)) → ((cA Z q X24 Y R i ∧ oCS (coT X24 i) (Z q 27).toNat 1000000 1000000) ∧ (∀ X26 : Nat → Int → Int, (∀ i j, rI (X26 i j)) → (coT (X26) i = csMk (cx9 Z q 0) (coT X24 i) (Z q 27).toNat ∧ (∀ z, z ≠ i + 47 → z ≠ i + 48 → (X26) z = X24 z) ∧ ∀ s, s ≠ 2 → s ≠ 7 → (X26) (i + 47) s = X24 (i + 47) s) → (((¬ (X26 (i + 47) 1) = 0) → ((cA Z q X26 Y R i ∧ clF Z q ((X26 (i + 47) 7))) ∧ (∀ r31 : Int, rI r31 → ∀ X29 : Nat → Int → Int, (∀ i j, rI (X29 i j)) → ∀ Y30 : Nat → Int → Int, (∀ i j, rL (Y30 i j)) → (r31 = ((sTip ((X26 (i + 47) 4)) (rP Z q) (rW Z q) (rG Z q) (fun e => mHas ((X26 (i + 47) 7)) e) (fun x y : Nat => decide (x < y)) (Z q 27).toNat : Nat) : Int) ∧ fvK X26 (X29) Y (Y30) i) → ((cA Z q X29 Y30 R i ∧ (0 ≤ (r31) ∧ (r31) < Z q 27) ∧ oCS (coT X29 i) (Z q 27).toNat 2000000 2000000) ∧ (∀ X33 : Nat → Int → Int, (∀ i j, rI (X33 i j)) → (coX (X33) i = csCh (rP Z q) (coX X29 i) ((r31)).toNat ∧ (∀ z, z ≠ i + 47 → (X33) z = X29 z) ∧ (X33) (i + 47) 1 = X29 (i + 47) 1 ∧ (X33) (i + 47) 9 = X29 (i + 47) 9 ∧ (X33) (i + 47) 14 = if X29 (i + 47) 14 = -1 ∧ (r31) ≠ 0 then X29 (i + 47) 9 else X29 (i + 47) 14) → ((rI ((X33 (i + 47) 9) + 1)) ∧ (∀ X35 : Nat → Int → Int, X35 = zU X33 (i + 47) 9 ((X33 (i + 47) 9) + 1) → (∀ i j, rI (X35 i j)) → (true = csOk (Z q 27).toNat (coX X i) (a) (b) ∧ (true = false → (X35) = X ∧ (Y30) = Y) ∧ (true = true → cfK X (X35) Y (Y30) i ∧ ac14 X (X35) i ∧ ∀ bb t, coS Z q X i bb t → coS Z q (X35) i (bb + 15) (csDo (cx9 Z q (X (i + 47) 1)) t (a) (b))))))))))) ∧ ((¬ (¬ (X26 (i + 47) 1) = 0)) → ((cA Z q X26 Y R i ∧ clF Z q ((X26 (i + 47) 7)) ∧ (i + 48) ≠ i + 16 ∧ (i + 48) ≠ i) ∧ (∀ r39 : Int, rI r39 → ∀ X37 : Nat → Int → Int, (∀ i j, rI (X37 i j)) → ∀ Y38 : Nat → Int → Int, (∀ i j, rL (Y38 i j)) → (r39 = ((sTip ((X26 (i + 47) 4)) (rP Z q) (rW Z q) (rG Z q) (fun e => mHas ((X26 (i + 47) 7)) e) (fun x y : Nat => decide (X26 (i + 48) x < X26 (i + 48) y)) (Z q 27).toNat : Nat) : Int) ∧ fvK X26 (X37) Y (Y38) i) → ((cA Z q X37 Y38 R i ∧ (0 ≤ (r39) ∧ (r39) < Z q 27) ∧ oCS (coT X37 i) (Z q 27).toNat 2000000 2000000) ∧ (∀ X41 : Nat → Int → Int, (∀ i j, rI (X41 i j)) → (coX (X41) i = csCh (rP Z q) (coX X37 i) ((r39)).toNat ∧ (∀ z, z ≠ i + 47 → (X41) z = X37 z) ∧ (X41) (i + 47) 1 = X37 (i + 47) 1 ∧ (X41) (i + 47) 9 = X37 (i + 47) 9 ∧ (X41) (i + 47) 14 = if X37 (i + 47) 14 = -1 ∧ (r39) ≠ 0 then X37 (i + 47) 9 else X37 (i + 47) 14) → ((rI ((X41 (i + 47) 9) + 1)) ∧ (∀ X43 : Nat → Int → Int, X43 = zU X41 (i + 47) 9 ((X41 (i + 47) 9) + 1) → (∀ i j, rI (X43 i j)) → (true = csOk (Z q 27).toNat (coX X i) (a) (b) ∧ (true = false → (X43) = X ∧ (Y38) = Y) ∧ (true = true → cfK X (X43) Y (Y38) i ∧ ac14 X (X43) i ∧ ∀ bb t, coS Z q X i bb t → coS Z q (X43) i (bb + 15) (csDo (cx9 Z q (X (i + 47) 1)) t (a) (b)))))))))))))))) ∧ (a = 2 → (∀ X44 : Nat → Int → Int, X44 = zU X (i + 47) 5 (zAnd (X (i + 47) 5) (zXor (zShl (1) (b)) ((-1)))) → (∀ i j, rI (X44 i j)) → (∀ X45 : Nat → Int → Int, X45 = zU X44 (i + 47) 6 (zAnd (X44 (i + 47) 6) (zXor (zShl (1) (b)) ((-1)))) → (∀ i j, rI (X45 i j)) → ((cA Z q X45 Y R i ∧ oCS (coT X45 i) (Z q 27).toNat 1000000 1000000) ∧ (∀ X47 : Nat → Int → Int, (∀ i j, rI (X47 i j)) → (coT (X47) i = csMk (cx9 Z q 0) (coT X45 i) (Z q 27).toNat ∧ (∀ z, z ≠ i + 47 → z ≠ i + 48 → (X47) z = X45 z) ∧ ∀ s, s ≠ 2 → s ≠ 7 → (X47) (i + 47) s = X45 (i + 47) s) → (((¬ (X47 (i + 47) 1) = 0) → ((cA Z q X47 Y R i ∧ clF Z q ((X47 (i + 47) 7))) ∧ (∀ r52 : Int, rI r52 → ∀ X50 : Nat → Int → Int, (∀ i j, rI (X50 i j)) → ∀ Y51 : Nat → Int → Int, (∀ i j, rL (Y51 i j)) → (r52 = ((sTip ((X47 (i + 47) 4)) (rP Z q) (rW Z q) (rG Z q) (fun e => mHas ((X47 (i + 47) 7)) e) (fun x y : Nat => decide (x < y)) (Z q 27).toNat : Nat) : Int) ∧ fvK X47 (X50) Y (Y51) i) → ((cA Z q X50 Y51 R i ∧ (0 ≤ (r52) ∧ (r52) < Z q 27) ∧ oCS (coT X50 i) (Z q 27).toNat 2000000 2000000) ∧ (∀ X54 : Nat → Int → Int, (∀ i j, rI (X54 i j)) → (coX (X54) i = csCh (rP Z q) (coX X50 i) ((r52)).toNat ∧ (∀ z, z ≠ i + 47 → (X54) z = X50 z) ∧ (X54) (i + 47) 1 = X50 (i + 47) 1 ∧ (X54) (i + 47) 9 = X50 (i + 47) 9 ∧ (X54) (i + 47) 14 = if X50 (i + 47) 14 = -1 ∧ (r52) ≠ 0 then X50 (i + 47) 9 else X50 (i + 47) 14) → ((rI ((X54 (i + 47) 9) + 1)) ∧ (∀ X56 : Nat → Int → Int, X56 = zU X54 (i + 47) 9 ((X54 (i + 47) 9) + 1) → (∀ i j, rI (X56 i j)) → (true = csOk (Z q 27).toNat (coX X i) (a) (b) ∧ (true = false → (X56) = X ∧ (Y51) = Y) ∧ (true = true → cfK X (X56) Y (Y51) i ∧ ac14 X (X56) i ∧ ∀ bb t, coS Z q X i bb t → coS Z q (X56) i (bb + 15) (csDo (cx9 Z q (X (i + 47) 1)) t (a) (b))))))))))) ∧ ((¬ (¬ (X47 (i + 47) 1) = 0)) → ((cA Z q X47 Y R i ∧ clF Z q ((X47 (i + 47) 7)) ∧ (i + 48) ≠ i + 16 ∧ (i + 48) ≠ i) ∧ (∀ r60 : Int, rI r60 → ∀ X58 : Nat → Int → Int, (∀ i j, rI (X58 i j)) → ∀ Y59 : Nat → Int → Int, (∀ i j, rL (Y59 i j)) → (r60 = ((sTip ((X47 (i + 47) 4)) (rP Z q) (rW Z q) (rG Z q) (fun e => mHas ((X47 (i + 47) 7)) e) (fun x y : Nat => decide (X47 (i + 48) x < X47 (i + 48) y)) (Z q 27).toNat : Nat) : Int) ∧ fvK X47 (X58) Y (Y59) i) → ((cA Z q X58 Y59 R i ∧ (0 ≤ (r60) ∧ (r60) < Z q 27) ∧ oCS (coT X58 i) (Z q 27).toNat 2000000 2000000) ∧ (∀ X62 : Nat → Int → Int, (∀ i j, rI (X62 i j)) → (coX (X62) i = csCh (rP Z q) (coX X58 i) ((r60)).toNat ∧ (∀ z, z ≠ i + 47 → (X62) z = X58 z) ∧ (X62) (i + 47) 1 = X58 (i + 47) 1 ∧ (X62) (i + 47) 9 = X58 (i + 47) 9 ∧ (X62) (i + 47) 14 = if X58 (i + 47) 14 = -1 ∧ (r60) ≠ 0 then X58 (i + 47) 9 else X58 (i + 47) 14) → ((rI ((X62 (i + 47) 9) + 1)) ∧ (∀ X64 : Nat → Int → Int, X64 = zU X62 (i + 47) 9 ((X62 (i + 47) 9) + 1) → (∀ i j, rI (X64 i j)) → (true = csOk (Z q 27).toNat (coX X i) (a) (b) ∧ (true = false → (X64) = X ∧ (Y59) = Y) ∧ (true = true → cfK X (X64) Y (Y59) i ∧ ac14 X (X64) i ∧ ∀ bb t, coS Z q X i bb t → coS Z q (X64) i (bb + 15) (csDo (cx9 Z q (X (i + 47) 1)) t (a) (b))))))))))))))))) ∧ ((a < 0 ∨ 2 < a) → (∀ X65 : Nat → Int → Int, X65 = zU X (i + 47) 4 (b) → (∀ i j, rI (X65 i j)) → ((cA Z q X65 Y R i ∧ oCS (coT X65 i) (Z q 27).toNat 1000000 1000000) ∧ (∀ X67 : Nat → Int → Int, (∀ i j, rI (X67 i j)) → (coT (X67) i = csMk (cx9 Z q 0) (coT X65 i) (Z q 27).toNat ∧ (∀ z, z ≠ i + 47 → z ≠ i + 48 → (X67) z = X65 z) ∧ ∀ s, s ≠ 2 → s ≠ 7 → (X67) (i + 47) s = X65 (i + 47) s) → (((¬ (X67 (i + 47) 1) = 0) → ((cA Z q X67 Y R i ∧ clF Z q ((X67 (i + 47) 7))) ∧ (∀ r72 : Int, rI r72 → ∀ X70 : Nat → Int → Int, (∀ i j, rI (X70 i j)) → ∀ Y71 : Nat → Int → Int, (∀ i j, rL (Y71 i j)) → (r72 = ((sTip ((X67 (i + 47) 4)) (rP Z q) (rW Z q) (rG Z q) (fun e => mHas ((X67 (i + 47) 7)) e) (fun x y : Nat => decide (x < y)) (Z q 27).toNat : Nat) : Int) ∧ fvK X67 (X70) Y (Y71) i) → ((cA Z q X70 Y71 R i ∧ (0 ≤ (r72) ∧ (r72) < Z q 27) ∧ oCS (coT X70 i) (Z q 27).toNat 2000000 2000000) ∧ (∀ X74 : Nat → Int → Int, (∀ i j, rI (X74 i j)) → (coX (X74) i = csCh (rP Z q) (coX X70 i) ((r72)).toNat ∧ (∀ z, z ≠ i + 47 → (X74) z = X70 z) ∧ (X74) (i + 47) 1 = X70 (i + 47) 1 ∧ (X74) (i + 47) 9 = X70 (i + 47) 9 ∧ (X74) (i + 47) 14 = if X70 (i + 47) 14 = -1 ∧ (r72) ≠ 0 then X70 (i + 47) 9 else X70 (i + 47) 14) → ((rI ((X74 (i + 47) 9) + 1)) ∧ (∀ X76 : Nat → Int → Int, X76 = zU X74 (i + 47) 9 ((X74 (i + 47) 9) + 1) → (∀ i j, rI (X76 i j)) → (true = csOk (Z q 27).toNat (coX X i) (a) (b) ∧ (true = false → (X76) = X ∧ (Y71) = Y) ∧ (true = true → cfK X (X76) Y (Y71) i ∧ ac14 X (X76) i ∧ ∀ bb t, coS Z q X i bb t → coS Z q (X76) i (bb + 15) (csDo (cx9 Z q (X (i + 47) 1)) t (a) (b))))))))))) ∧ ((¬ (¬ (X67 (i + 47) 1) = 0)) → ((cA Z q X67 Y R i ∧ clF Z q ((X67 (i + 47) 7)) ∧ (i + 48) ≠ i + 16 ∧ (i + 48) ≠ i) ∧ (∀ r80 : Int, rI r80 → ∀ X78 : Nat → Int → Int, (∀ i j, rI (X78 i j)) → ∀ Y79 : Nat → Int → Int, (∀ i j, rL (Y79 i j)) → (r80 = ((sTip ((X67 (i + 47) 4)) (rP Z q) (rW Z q) (rG Z q) (fun e => mHas ((X67 (i + 47) 7)) e) (fun x y : Nat => decide (X67 (i + 48) x < X67 (i + 48) y)) (Z q 27).toNat : Nat) : Int) ∧ fvK X67 (X78) Y (Y79) i) → ((cA Z q X78 Y79 R i ∧ (0 ≤ (r80) ∧ (r80) < Z q 27) ∧ oCS (coT X78 i) (Z q 27).toNat 2000000 2000000) ∧ (∀ X82 : Nat → Int → Int, (∀ i j, rI (X82 i j)) → (coX (X82) i = csCh (rP Z q) (coX X78 i) ((r80)).toNat ∧ (∀ z, z ≠ i + 47 → (X82) z = X78 z) ∧ (X82) (i + 47) 1 = X78 (i + 47) 1 ∧ (X82) (i + 47) 9 = X78 (i + 47) 9 ∧ (X82) (i + 47) 14 = if X78 (i + 47) 14 = -1 ∧ (r80) ≠ 0 then X78 (i + 47) 9 else X78 (i + 47) 14) → ((rI ((X82 (i + 47) 9) + 1)) ∧ (∀ X84 : Nat → Int → Int, X84 = zU X82 (i + 47) 9 ((X82 (i + 47) 9) + 1) → (∀ i j, rI (X84 i j)) → (true = csOk (Z q 27).toNat (coX X i) (a) (b) ∧ (true = false → (X84) = X ∧ (Y79) = Y) ∧ (true = true → cfK X (X84) Y (Y79) i ∧ ac14 X (X84) i ∧ ∀ bb t, coS Z q X i bb t → coS Z q (X84) i (bb + 15) (csDo (cx9 Z q (X (i + 47) 1)) t (a) (b)))))))))))))))))) ∧ (((csOk (Z q 27).toNat (coX X i) (a) (b)) = false) → (false = csOk (Z q 27).toNat (coX X i) (a) (b) ∧ (false = false → (X) = X ∧ (Y) = Y) ∧ (false = true → cfK X (X) Y (Y) i ∧ ac14 X (X) i ∧ ∀ bb t, coS Z q X i bb t → coS Z q (X) i (bb + 15) (csDo (cx9 Z q (X (i + 47) 1)) t (a) (b))))))
set_option maxHeartbeats 4000000 in
set_option maxRecDepth 100000 in
theorem w_X2_act {l : Launch} {D : va_G} {cy : Nat → ClassId} {bs N : Nat} {sa : Nat → Nat} {kd len : Nat → Nat} {X Y : Nat → Int → Int} {R : Nat → Int → Option Nat} {i : Nat} {Z : Nat → Int → Int} {q : Nat} (hC : zCourse N kd len R i) (a : Int) (ha : rI a) (b : Int) (hb : rI b) (hF : F_X2_act i Z q X Y R a b) : Met l yX2_act (.code yX2_act cX2_act 3 (some .boolean) :: zTB) (zRm 2 82) (zPc D cy bs sa N kd len X Y R [.ref (bs + (i + 47)), .int (zI (a)), .int (zI (b))]) (zQi D cy bs N kd len (fun r st => st.2.2 = R ∧ ∃ rb : Bool, r = bz rb ∧ (rb = csOk (Z q 27).toNat (coX X i) (a) (b) ∧ (rb = false → (st.1) = X ∧ (st.2.1) = Y) ∧ (rb = true → cfK X (st.1) Y (st.2.1) i ∧ ac14 X (st.1) i ∧ ∀ bb t, coS Z q X i bb t → coS Z q (st.1) i (bb + 15) (csDo (cx9 Z q (X (i + 47) 1)) t (a) (b)))))) 0 0 (zA bs) := by
  refine zstart (by decide) (Nat.le_of_ble_eq_true rfl) ?_
  intro p e s m args below meth c ls C hE hH hr hlk hnm hl hargs
  have hF := hF hH.2.2.1 hH.2.2.2
  have hS : va_S (zA bs) s.heap s.heap [] := va_S.rf
  have hl : lv_has ls 3 [(0, .ref (bs + (i + 47))), (1, .int (zI (a))), (2, .int (zI (b)))] := hl
  refine lv_aload_n C.1 C.2.1 dX2_act_0 rfl (lv_at hl 0 rfl) ?_
  refine lv_iload_n C.1 C.2.1 dX2_act_1 rfl (lv_at hl 1 rfl) ?_
  refine lv_iload_n C.1 C.2.1 dX2_act_2 rfl (lv_at hl 2 rfl) ?_
  obtain ⟨o1, hF⟩ := hF
  refine zgoi (zrunV (As := [.int (zI (a)), .int (zI (b))]) (rest := []) C hE hH hS hl.1 (c_X2_may (l := l) hC (a) ha (b) hb o1) k_RX2_72 ⟨Nat.le_of_ble_eq_true rfl, Nat.le_of_ble_eq_true rfl⟩ (zCo_n hC) (zCo_k hC) rfl rfl rfl (Nat.le_of_ble_eq_true rfl) dX2_act_3 ⟨Nat.zero_le _, Nat.zero_le _⟩) hS (fun rq Xq Yq Rq H locs hrq hq hH hS => ?_)
  obtain ⟨h91, h92⟩ := hq
  have h93 : Xq = X := congrArg (fun z => z.1) h92
  have h94 : Yq = Y := congrArg (fun z => z.2.1) h92
  have h95 : Rq = R := congrArg (fun z => z.2.2) h92
  rw [h93, h94, h95] at hH
  subst h91
  refine zd_ifB_ne C 11 dX2_act_6 (by decide) (fun c2 => ?_) (fun c2 => ?_)
  · have hF := hF.1 c2
    refine lv_iload_n C.1 C.2.1 dX2_act_11 rfl (lv_at hl 1 rfl) ?_
    by_cases c3_0 : a = 0
    · have hF := hF.1 c3_0
      refine zd_tabI C ha 40 (0) c3_0 dX2_act_12 (by decide) (by decide) rfl (by decide) ?_
      refine lv_aload_n C.1 C.2.1 dX2_act_40 rfl (lv_at hl 0 rfl) ?_
      refine lv_dup C.1 C.2.1 dX2_act_41 rfl ?_
      refine zg2_5 C hH (zCo_n hC) (zCo_k hC) q_454 dX2_act_42 ?_
      refine zd_iconst C dX2_act_45 ?_
      refine lv_iload_n C.1 C.2.1 dX2_act_46 rfl (lv_at hl 2 rfl) ?_
      refine zd_ishl C dX2_act_47 ?_
      refine zd_ior C dX2_act_48 ?_
      refine zp2_5 C hH hS (zCo_n hC) (zCo_k hC) q_454 (zI_rg _) dX2_act_49 (fun H locs hH hS => ?_)
      obtain ⟨X4, eX4⟩ : ∃ z, z = zU X (i + 47) 5 (zOr (X (i + 47) 5) (zShl (1) (b))) := ⟨_, rfl⟩
      rw [← eX4] at hH
      have hF := hF X4 eX4 hH.2.2.1
      refine lv_goto (tgt := 106) C.1 C.2.1 dX2_act_52 (by decide) ?_
      refine lv_aload_n C.1 C.2.1 dX2_act_106 rfl (lv_at hl 0 rfl) ?_
      obtain ⟨o5, hF⟩ := hF
      refine zgov (zrunV (As := []) (rest := []) C hE hH hS hl.1 (c_X2_becomeWhole (l := l) hC  o5) k_RX2_75 ⟨Nat.le_of_ble_eq_true rfl, Nat.le_of_ble_eq_true rfl⟩ (zCo_n hC) (zCo_k hC) rfl rfl rfl (Nat.le_of_ble_eq_true rfl) dX2_act_107 ⟨Nat.zero_le _, Nat.zero_le _⟩) hS (fun X6 Yq Rq H locs hq hH hS => ?_)
      obtain ⟨h9Y, h9R, hq⟩ := hq
      dsimp only at h9Y h9R
      rw [h9Y, h9R] at hH
      have hF := hF X6 hH.2.2.1 hq
      refine lv_aload_n C.1 C.2.1 dX2_act_110 rfl (lv_at hl 0 rfl) ?_
      refine lv_aload_n C.1 C.2.1 dX2_act_111 rfl (lv_at hl 0 rfl) ?_
      refine zg2_0 C hH (zCo_n hC) (zCo_k hC) q_448 (zCo_r0 hC) dX2_act_112 ?_
      refine lv_aload_n C.1 C.2.1 dX2_act_115 rfl (lv_at hl 0 rfl) ?_
      refine zg2_7 C hH (zCo_n hC) (zCo_k hC) q_458 dX2_act_116 ?_
      refine lv_aload_n C.1 C.2.1 dX2_act_119 rfl (lv_at hl 0 rfl) ?_
      refine zg2_4 C hH (zCo_n hC) (zCo_k hC) q_452 dX2_act_120 ?_
      refine lv_aload_n C.1 C.2.1 dX2_act_123 rfl (lv_at hl 0 rfl) ?_
      refine zg2_1 C hH (zCo_n hC) (zCo_k hC) q_449 dX2_act_124 ?_
      refine zd_if_ne C (hH.2.2.1 _ _) 137 dX2_act_127 (by decide) (fun c7 => ?_) (fun c7 => ?_)
      · have hF := hF.1 c7
        refine zd_getsN C hE hS (own := "WorkChains$Course") (ix := 78) (C9 := "WorkChains") (n9 := "BY_NUMBER") (host := "WorkChains") (by decide +kernel) hE.2.2.1.1 dX2_act_137 ?_
        obtain ⟨o8, hF⟩ := hF
        refine zgoi (zrunV (As := [.int (zI (X6 (i + 47) 7)), .int (zI (X6 (i + 47) 4)), .ref (sa 0)]) (rest := [.ref (bs + (i + 47))]) C hE hH hS hl.1 (c_X1_chooseS (l := l) hC.1 (X6 (i + 47) 7) (hH.2.2.1 _ _) (X6 (i + 47) 4) (hH.2.2.1 _ _) o8) k_RX2_81 ⟨Nat.le_of_ble_eq_true rfl, Nat.le_of_ble_eq_true rfl⟩ (zChart_n0 hC.1) (zChart_k0 hC.1) rfl rfl rfl (Nat.le_of_ble_eq_true rfl) dX2_act_140 ⟨Nat.zero_le _, Nat.zero_le _⟩) hS (fun r11 X9 Y10 Rq H locs hrq hq hH hS => ?_)
        obtain ⟨h9R, hq⟩ := hq
        dsimp only at h9R
        rw [h9R] at hH
        have hr11 := hrq
        have hF := hF r11 hrq X9 hH.2.2.1 Y10 hH.2.2.2 hq
        obtain ⟨o12, hF⟩ := hF
        refine zgov (zrunV (As := [.int (zI (r11))]) (rest := []) C hE hH hS hl.1 (c_X2_goTo (l := l) hC (r11) hr11 o12) k_RX2_87 ⟨Nat.le_of_ble_eq_true rfl, Nat.le_of_ble_eq_true rfl⟩ (zCo_n hC) (zCo_k hC) rfl rfl rfl (Nat.le_of_ble_eq_true rfl) dX2_act_143 ⟨Nat.zero_le _, Nat.zero_le _⟩) hS (fun X13 Yq Rq H locs hq hH hS => ?_)
        obtain ⟨h9Y, h9R, hq⟩ := hq
        dsimp only at h9Y h9R
        rw [h9Y, h9R] at hH
        have hF := hF X13 hH.2.2.1 hq
        refine lv_aload_n C.1 C.2.1 dX2_act_146 rfl (lv_at hl 0 rfl) ?_
        refine lv_dup C.1 C.2.1 dX2_act_147 rfl ?_
        refine zg2_9 C hH (zCo_n hC) (zCo_k hC) q_463 dX2_act_148 ?_
        refine zd_iconst C dX2_act_151 ?_
        refine zd_iadd C dX2_act_152 ?_
        obtain ⟨o14, hF⟩ := hF
        refine zp2_9 C hH hS (zCo_n hC) (zCo_k hC) q_463 o14 dX2_act_153 (fun H locs hH hS => ?_)
        obtain ⟨X15, eX15⟩ : ∃ z, z = zU X13 (i + 47) 9 ((X13 (i + 47) 9) + 1) := ⟨_, rfl⟩
        rw [← eX15] at hH
        have hF := hF X15 eX15 hH.2.2.1
        refine zd_iconst C dX2_act_156 ?_
        exact zd_zret C hr hlk hH hS (by decide) (⟨rfl, _, rfl, hF⟩) dX2_act_157
      · have hF := hF.2 c7
        refine lv_aload_n C.1 C.2.1 dX2_act_130 rfl (lv_at hl 0 rfl) ?_
        refine zg2_3 C hH (zCo_n hC) (zCo_k hC) q_451 (zCo_r3 hC) dX2_act_131 ?_
        refine lv_goto (tgt := 140) C.1 C.2.1 dX2_act_134 (by decide) ?_
        obtain ⟨o16, hF⟩ := hF
        refine zgoi (zrunV (As := [.int (zI (X6 (i + 47) 7)), .int (zI (X6 (i + 47) 4)), .ref (bs + (i + 48))]) (rest := [.ref (bs + (i + 47))]) C hE hH hS hl.1 (c_X1_choose (l := l) hC.1 ⟨(zCo_n8 hC), (zCo_k8 hC), zCo_l8 hC⟩ (X6 (i + 47) 7) (hH.2.2.1 _ _) (X6 (i + 47) 4) (hH.2.2.1 _ _) o16) k_RX2_81 ⟨Nat.le_of_ble_eq_true rfl, Nat.le_of_ble_eq_true rfl⟩ (zChart_n0 hC.1) (zChart_k0 hC.1) rfl rfl rfl (Nat.le_of_ble_eq_true rfl) dX2_act_140 ⟨Nat.zero_le _, Nat.zero_le _⟩) hS (fun r19 X17 Y18 Rq H locs hrq hq hH hS => ?_)
        obtain ⟨h9R, hq⟩ := hq
        dsimp only at h9R
        rw [h9R] at hH
        have hr19 := hrq
        have hF := hF r19 hrq X17 hH.2.2.1 Y18 hH.2.2.2 hq
        obtain ⟨o20, hF⟩ := hF
        refine zgov (zrunV (As := [.int (zI (r19))]) (rest := []) C hE hH hS hl.1 (c_X2_goTo (l := l) hC (r19) hr19 o20) k_RX2_87 ⟨Nat.le_of_ble_eq_true rfl, Nat.le_of_ble_eq_true rfl⟩ (zCo_n hC) (zCo_k hC) rfl rfl rfl (Nat.le_of_ble_eq_true rfl) dX2_act_143 ⟨Nat.zero_le _, Nat.zero_le _⟩) hS (fun X21 Yq Rq H locs hq hH hS => ?_)
        obtain ⟨h9Y, h9R, hq⟩ := hq
        dsimp only at h9Y h9R
        rw [h9Y, h9R] at hH
        have hF := hF X21 hH.2.2.1 hq
        refine lv_aload_n C.1 C.2.1 dX2_act_146 rfl (lv_at hl 0 rfl) ?_
        refine lv_dup C.1 C.2.1 dX2_act_147 rfl ?_
        refine zg2_9 C hH (zCo_n hC) (zCo_k hC) q_463 dX2_act_148 ?_
        refine zd_iconst C dX2_act_151 ?_
        refine zd_iadd C dX2_act_152 ?_
        obtain ⟨o22, hF⟩ := hF
        refine zp2_9 C hH hS (zCo_n hC) (zCo_k hC) q_463 o22 dX2_act_153 (fun H locs hH hS => ?_)
        obtain ⟨X23, eX23⟩ : ∃ z, z = zU X21 (i + 47) 9 ((X21 (i + 47) 9) + 1) := ⟨_, rfl⟩
        rw [← eX23] at hH
        have hF := hF X23 eX23 hH.2.2.1
        refine zd_iconst C dX2_act_156 ?_
        exact zd_zret C hr hlk hH hS (by decide) (⟨rfl, _, rfl, hF⟩) dX2_act_157
    · have hF := hF.2
      by_cases c3_1 : a = 1
      · have hF := hF.1 c3_1
        refine zd_tabI C ha 55 (1) c3_1 dX2_act_12 (by decide) (by decide) rfl (by decide) ?_
        refine lv_aload_n C.1 C.2.1 dX2_act_55 rfl (lv_at hl 0 rfl) ?_
        refine lv_dup C.1 C.2.1 dX2_act_56 rfl ?_
        refine zg2_6 C hH (zCo_n hC) (zCo_k hC) q_456 dX2_act_57 ?_
        refine zd_iconst C dX2_act_60 ?_
        refine lv_iload_n C.1 C.2.1 dX2_act_61 rfl (lv_at hl 2 rfl) ?_
        refine zd_ishl C dX2_act_62 ?_
        refine zd_ior C dX2_act_63 ?_
        refine zp2_6 C hH hS (zCo_n hC) (zCo_k hC) q_456 (zI_rg _) dX2_act_64 (fun H locs hH hS => ?_)
        obtain ⟨X24, eX24⟩ : ∃ z, z = zU X (i + 47) 6 (zOr (X (i + 47) 6) (zShl (1) (b))) := ⟨_, rfl⟩
        rw [← eX24] at hH
        have hF := hF X24 eX24 hH.2.2.1
        refine lv_goto (tgt := 106) C.1 C.2.1 dX2_act_67 (by decide) ?_
        refine lv_aload_n C.1 C.2.1 dX2_act_106 rfl (lv_at hl 0 rfl) ?_
        obtain ⟨o25, hF⟩ := hF
        refine zgov (zrunV (As := []) (rest := []) C hE hH hS hl.1 (c_X2_becomeWhole (l := l) hC  o25) k_RX2_75 ⟨Nat.le_of_ble_eq_true rfl, Nat.le_of_ble_eq_true rfl⟩ (zCo_n hC) (zCo_k hC) rfl rfl rfl (Nat.le_of_ble_eq_true rfl) dX2_act_107 ⟨Nat.zero_le _, Nat.zero_le _⟩) hS (fun X26 Yq Rq H locs hq hH hS => ?_)
        obtain ⟨h9Y, h9R, hq⟩ := hq
        dsimp only at h9Y h9R
        rw [h9Y, h9R] at hH
        have hF := hF X26 hH.2.2.1 hq
        refine lv_aload_n C.1 C.2.1 dX2_act_110 rfl (lv_at hl 0 rfl) ?_
        refine lv_aload_n C.1 C.2.1 dX2_act_111 rfl (lv_at hl 0 rfl) ?_
        refine zg2_0 C hH (zCo_n hC) (zCo_k hC) q_448 (zCo_r0 hC) dX2_act_112 ?_
        refine lv_aload_n C.1 C.2.1 dX2_act_115 rfl (lv_at hl 0 rfl) ?_
        refine zg2_7 C hH (zCo_n hC) (zCo_k hC) q_458 dX2_act_116 ?_
        refine lv_aload_n C.1 C.2.1 dX2_act_119 rfl (lv_at hl 0 rfl) ?_
        refine zg2_4 C hH (zCo_n hC) (zCo_k hC) q_452 dX2_act_120 ?_
        refine lv_aload_n C.1 C.2.1 dX2_act_123 rfl (lv_at hl 0 rfl) ?_
        refine zg2_1 C hH (zCo_n hC) (zCo_k hC) q_449 dX2_act_124 ?_
        refine zd_if_ne C (hH.2.2.1 _ _) 137 dX2_act_127 (by decide) (fun c27 => ?_) (fun c27 => ?_)
        · have hF := hF.1 c27
          refine zd_getsN C hE hS (own := "WorkChains$Course") (ix := 78) (C9 := "WorkChains") (n9 := "BY_NUMBER") (host := "WorkChains") (by decide +kernel) hE.2.2.1.1 dX2_act_137 ?_
          obtain ⟨o28, hF⟩ := hF
          refine zgoi (zrunV (As := [.int (zI (X26 (i + 47) 7)), .int (zI (X26 (i + 47) 4)), .ref (sa 0)]) (rest := [.ref (bs + (i + 47))]) C hE hH hS hl.1 (c_X1_chooseS (l := l) hC.1 (X26 (i + 47) 7) (hH.2.2.1 _ _) (X26 (i + 47) 4) (hH.2.2.1 _ _) o28) k_RX2_81 ⟨Nat.le_of_ble_eq_true rfl, Nat.le_of_ble_eq_true rfl⟩ (zChart_n0 hC.1) (zChart_k0 hC.1) rfl rfl rfl (Nat.le_of_ble_eq_true rfl) dX2_act_140 ⟨Nat.zero_le _, Nat.zero_le _⟩) hS (fun r31 X29 Y30 Rq H locs hrq hq hH hS => ?_)
          obtain ⟨h9R, hq⟩ := hq
          dsimp only at h9R
          rw [h9R] at hH
          have hr31 := hrq
          have hF := hF r31 hrq X29 hH.2.2.1 Y30 hH.2.2.2 hq
          obtain ⟨o32, hF⟩ := hF
          refine zgov (zrunV (As := [.int (zI (r31))]) (rest := []) C hE hH hS hl.1 (c_X2_goTo (l := l) hC (r31) hr31 o32) k_RX2_87 ⟨Nat.le_of_ble_eq_true rfl, Nat.le_of_ble_eq_true rfl⟩ (zCo_n hC) (zCo_k hC) rfl rfl rfl (Nat.le_of_ble_eq_true rfl) dX2_act_143 ⟨Nat.zero_le _, Nat.zero_le _⟩) hS (fun X33 Yq Rq H locs hq hH hS => ?_)
          obtain ⟨h9Y, h9R, hq⟩ := hq
          dsimp only at h9Y h9R
          rw [h9Y, h9R] at hH
          have hF := hF X33 hH.2.2.1 hq
          refine lv_aload_n C.1 C.2.1 dX2_act_146 rfl (lv_at hl 0 rfl) ?_
          refine lv_dup C.1 C.2.1 dX2_act_147 rfl ?_
          refine zg2_9 C hH (zCo_n hC) (zCo_k hC) q_463 dX2_act_148 ?_
          refine zd_iconst C dX2_act_151 ?_
          refine zd_iadd C dX2_act_152 ?_
          obtain ⟨o34, hF⟩ := hF
          refine zp2_9 C hH hS (zCo_n hC) (zCo_k hC) q_463 o34 dX2_act_153 (fun H locs hH hS => ?_)
          obtain ⟨X35, eX35⟩ : ∃ z, z = zU X33 (i + 47) 9 ((X33 (i + 47) 9) + 1) := ⟨_, rfl⟩
          rw [← eX35] at hH
          have hF := hF X35 eX35 hH.2.2.1
          refine zd_iconst C dX2_act_156 ?_
          exact zd_zret C hr hlk hH hS (by decide) (⟨rfl, _, rfl, hF⟩) dX2_act_157
        · have hF := hF.2 c27
          refine lv_aload_n C.1 C.2.1 dX2_act_130 rfl (lv_at hl 0 rfl) ?_
          refine zg2_3 C hH (zCo_n hC) (zCo_k hC) q_451 (zCo_r3 hC) dX2_act_131 ?_
          refine lv_goto (tgt := 140) C.1 C.2.1 dX2_act_134 (by decide) ?_
          obtain ⟨o36, hF⟩ := hF
          refine zgoi (zrunV (As := [.int (zI (X26 (i + 47) 7)), .int (zI (X26 (i + 47) 4)), .ref (bs + (i + 48))]) (rest := [.ref (bs + (i + 47))]) C hE hH hS hl.1 (c_X1_choose (l := l) hC.1 ⟨(zCo_n8 hC), (zCo_k8 hC), zCo_l8 hC⟩ (X26 (i + 47) 7) (hH.2.2.1 _ _) (X26 (i + 47) 4) (hH.2.2.1 _ _) o36) k_RX2_81 ⟨Nat.le_of_ble_eq_true rfl, Nat.le_of_ble_eq_true rfl⟩ (zChart_n0 hC.1) (zChart_k0 hC.1) rfl rfl rfl (Nat.le_of_ble_eq_true rfl) dX2_act_140 ⟨Nat.zero_le _, Nat.zero_le _⟩) hS (fun r39 X37 Y38 Rq H locs hrq hq hH hS => ?_)
          obtain ⟨h9R, hq⟩ := hq
          dsimp only at h9R
          rw [h9R] at hH
          have hr39 := hrq
          have hF := hF r39 hrq X37 hH.2.2.1 Y38 hH.2.2.2 hq
          obtain ⟨o40, hF⟩ := hF
          refine zgov (zrunV (As := [.int (zI (r39))]) (rest := []) C hE hH hS hl.1 (c_X2_goTo (l := l) hC (r39) hr39 o40) k_RX2_87 ⟨Nat.le_of_ble_eq_true rfl, Nat.le_of_ble_eq_true rfl⟩ (zCo_n hC) (zCo_k hC) rfl rfl rfl (Nat.le_of_ble_eq_true rfl) dX2_act_143 ⟨Nat.zero_le _, Nat.zero_le _⟩) hS (fun X41 Yq Rq H locs hq hH hS => ?_)
          obtain ⟨h9Y, h9R, hq⟩ := hq
          dsimp only at h9Y h9R
          rw [h9Y, h9R] at hH
          have hF := hF X41 hH.2.2.1 hq
          refine lv_aload_n C.1 C.2.1 dX2_act_146 rfl (lv_at hl 0 rfl) ?_
          refine lv_dup C.1 C.2.1 dX2_act_147 rfl ?_
          refine zg2_9 C hH (zCo_n hC) (zCo_k hC) q_463 dX2_act_148 ?_
          refine zd_iconst C dX2_act_151 ?_
          refine zd_iadd C dX2_act_152 ?_
          obtain ⟨o42, hF⟩ := hF
          refine zp2_9 C hH hS (zCo_n hC) (zCo_k hC) q_463 o42 dX2_act_153 (fun H locs hH hS => ?_)
          obtain ⟨X43, eX43⟩ : ∃ z, z = zU X41 (i + 47) 9 ((X41 (i + 47) 9) + 1) := ⟨_, rfl⟩
          rw [← eX43] at hH
          have hF := hF X43 eX43 hH.2.2.1
          refine zd_iconst C dX2_act_156 ?_
          exact zd_zret C hr hlk hH hS (by decide) (⟨rfl, _, rfl, hF⟩) dX2_act_157
      · have hF := hF.2
        by_cases c3_2 : a = 2
        · have hF := hF.1 c3_2
          refine zd_tabI C ha 70 (2) c3_2 dX2_act_12 (by decide) (by decide) rfl (by decide) ?_
          refine lv_aload_n C.1 C.2.1 dX2_act_70 rfl (lv_at hl 0 rfl) ?_
          refine lv_dup C.1 C.2.1 dX2_act_71 rfl ?_
          refine zg2_5 C hH (zCo_n hC) (zCo_k hC) q_454 dX2_act_72 ?_
          refine zd_iconst C dX2_act_75 ?_
          refine lv_iload_n C.1 C.2.1 dX2_act_76 rfl (lv_at hl 2 rfl) ?_
          refine zd_ishl C dX2_act_77 ?_
          refine zd_iconst C dX2_act_78 ?_
          refine zd_ixor C dX2_act_79 ?_
          refine zd_iand C dX2_act_80 ?_
          refine zp2_5 C hH hS (zCo_n hC) (zCo_k hC) q_454 (zI_rg _) dX2_act_81 (fun H locs hH hS => ?_)
          obtain ⟨X44, eX44⟩ : ∃ z, z = zU X (i + 47) 5 (zAnd (X (i + 47) 5) (zXor (zShl (1) (b)) ((-1)))) := ⟨_, rfl⟩
          rw [← eX44] at hH
          have hF := hF X44 eX44 hH.2.2.1
          refine lv_aload_n C.1 C.2.1 dX2_act_84 rfl (lv_at hl 0 rfl) ?_
          refine lv_dup C.1 C.2.1 dX2_act_85 rfl ?_
          refine zg2_6 C hH (zCo_n hC) (zCo_k hC) q_456 dX2_act_86 ?_
          refine zd_iconst C dX2_act_89 ?_
          refine lv_iload_n C.1 C.2.1 dX2_act_90 rfl (lv_at hl 2 rfl) ?_
          refine zd_ishl C dX2_act_91 ?_
          refine zd_iconst C dX2_act_92 ?_
          refine zd_ixor C dX2_act_93 ?_
          refine zd_iand C dX2_act_94 ?_
          refine zp2_6 C hH hS (zCo_n hC) (zCo_k hC) q_456 (zI_rg _) dX2_act_95 (fun H locs hH hS => ?_)
          obtain ⟨X45, eX45⟩ : ∃ z, z = zU X44 (i + 47) 6 (zAnd (X44 (i + 47) 6) (zXor (zShl (1) (b)) ((-1)))) := ⟨_, rfl⟩
          rw [← eX45] at hH
          have hF := hF X45 eX45 hH.2.2.1
          refine lv_goto (tgt := 106) C.1 C.2.1 dX2_act_98 (by decide) ?_
          refine lv_aload_n C.1 C.2.1 dX2_act_106 rfl (lv_at hl 0 rfl) ?_
          obtain ⟨o46, hF⟩ := hF
          refine zgov (zrunV (As := []) (rest := []) C hE hH hS hl.1 (c_X2_becomeWhole (l := l) hC  o46) k_RX2_75 ⟨Nat.le_of_ble_eq_true rfl, Nat.le_of_ble_eq_true rfl⟩ (zCo_n hC) (zCo_k hC) rfl rfl rfl (Nat.le_of_ble_eq_true rfl) dX2_act_107 ⟨Nat.zero_le _, Nat.zero_le _⟩) hS (fun X47 Yq Rq H locs hq hH hS => ?_)
          obtain ⟨h9Y, h9R, hq⟩ := hq
          dsimp only at h9Y h9R
          rw [h9Y, h9R] at hH
          have hF := hF X47 hH.2.2.1 hq
          refine lv_aload_n C.1 C.2.1 dX2_act_110 rfl (lv_at hl 0 rfl) ?_
          refine lv_aload_n C.1 C.2.1 dX2_act_111 rfl (lv_at hl 0 rfl) ?_
          refine zg2_0 C hH (zCo_n hC) (zCo_k hC) q_448 (zCo_r0 hC) dX2_act_112 ?_
          refine lv_aload_n C.1 C.2.1 dX2_act_115 rfl (lv_at hl 0 rfl) ?_
          refine zg2_7 C hH (zCo_n hC) (zCo_k hC) q_458 dX2_act_116 ?_
          refine lv_aload_n C.1 C.2.1 dX2_act_119 rfl (lv_at hl 0 rfl) ?_
          refine zg2_4 C hH (zCo_n hC) (zCo_k hC) q_452 dX2_act_120 ?_
          refine lv_aload_n C.1 C.2.1 dX2_act_123 rfl (lv_at hl 0 rfl) ?_
          refine zg2_1 C hH (zCo_n hC) (zCo_k hC) q_449 dX2_act_124 ?_
          refine zd_if_ne C (hH.2.2.1 _ _) 137 dX2_act_127 (by decide) (fun c48 => ?_) (fun c48 => ?_)
          · have hF := hF.1 c48
            refine zd_getsN C hE hS (own := "WorkChains$Course") (ix := 78) (C9 := "WorkChains") (n9 := "BY_NUMBER") (host := "WorkChains") (by decide +kernel) hE.2.2.1.1 dX2_act_137 ?_
            obtain ⟨o49, hF⟩ := hF
            refine zgoi (zrunV (As := [.int (zI (X47 (i + 47) 7)), .int (zI (X47 (i + 47) 4)), .ref (sa 0)]) (rest := [.ref (bs + (i + 47))]) C hE hH hS hl.1 (c_X1_chooseS (l := l) hC.1 (X47 (i + 47) 7) (hH.2.2.1 _ _) (X47 (i + 47) 4) (hH.2.2.1 _ _) o49) k_RX2_81 ⟨Nat.le_of_ble_eq_true rfl, Nat.le_of_ble_eq_true rfl⟩ (zChart_n0 hC.1) (zChart_k0 hC.1) rfl rfl rfl (Nat.le_of_ble_eq_true rfl) dX2_act_140 ⟨Nat.zero_le _, Nat.zero_le _⟩) hS (fun r52 X50 Y51 Rq H locs hrq hq hH hS => ?_)
            obtain ⟨h9R, hq⟩ := hq
            dsimp only at h9R
            rw [h9R] at hH
            have hr52 := hrq
            have hF := hF r52 hrq X50 hH.2.2.1 Y51 hH.2.2.2 hq
            obtain ⟨o53, hF⟩ := hF
            refine zgov (zrunV (As := [.int (zI (r52))]) (rest := []) C hE hH hS hl.1 (c_X2_goTo (l := l) hC (r52) hr52 o53) k_RX2_87 ⟨Nat.le_of_ble_eq_true rfl, Nat.le_of_ble_eq_true rfl⟩ (zCo_n hC) (zCo_k hC) rfl rfl rfl (Nat.le_of_ble_eq_true rfl) dX2_act_143 ⟨Nat.zero_le _, Nat.zero_le _⟩) hS (fun X54 Yq Rq H locs hq hH hS => ?_)
            obtain ⟨h9Y, h9R, hq⟩ := hq
            dsimp only at h9Y h9R
            rw [h9Y, h9R] at hH
            have hF := hF X54 hH.2.2.1 hq
            refine lv_aload_n C.1 C.2.1 dX2_act_146 rfl (lv_at hl 0 rfl) ?_
            refine lv_dup C.1 C.2.1 dX2_act_147 rfl ?_
            refine zg2_9 C hH (zCo_n hC) (zCo_k hC) q_463 dX2_act_148 ?_
            refine zd_iconst C dX2_act_151 ?_
            refine zd_iadd C dX2_act_152 ?_
            obtain ⟨o55, hF⟩ := hF
            refine zp2_9 C hH hS (zCo_n hC) (zCo_k hC) q_463 o55 dX2_act_153 (fun H locs hH hS => ?_)
            obtain ⟨X56, eX56⟩ : ∃ z, z = zU X54 (i + 47) 9 ((X54 (i + 47) 9) + 1) := ⟨_, rfl⟩
            rw [← eX56] at hH
            have hF := hF X56 eX56 hH.2.2.1
            refine zd_iconst C dX2_act_156 ?_
            exact zd_zret C hr hlk hH hS (by decide) (⟨rfl, _, rfl, hF⟩) dX2_act_157
          · have hF := hF.2 c48
            refine lv_aload_n C.1 C.2.1 dX2_act_130 rfl (lv_at hl 0 rfl) ?_
            refine zg2_3 C hH (zCo_n hC) (zCo_k hC) q_451 (zCo_r3 hC) dX2_act_131 ?_
            refine lv_goto (tgt := 140) C.1 C.2.1 dX2_act_134 (by decide) ?_
            obtain ⟨o57, hF⟩ := hF
            refine zgoi (zrunV (As := [.int (zI (X47 (i + 47) 7)), .int (zI (X47 (i + 47) 4)), .ref (bs + (i + 48))]) (rest := [.ref (bs + (i + 47))]) C hE hH hS hl.1 (c_X1_choose (l := l) hC.1 ⟨(zCo_n8 hC), (zCo_k8 hC), zCo_l8 hC⟩ (X47 (i + 47) 7) (hH.2.2.1 _ _) (X47 (i + 47) 4) (hH.2.2.1 _ _) o57) k_RX2_81 ⟨Nat.le_of_ble_eq_true rfl, Nat.le_of_ble_eq_true rfl⟩ (zChart_n0 hC.1) (zChart_k0 hC.1) rfl rfl rfl (Nat.le_of_ble_eq_true rfl) dX2_act_140 ⟨Nat.zero_le _, Nat.zero_le _⟩) hS (fun r60 X58 Y59 Rq H locs hrq hq hH hS => ?_)
            obtain ⟨h9R, hq⟩ := hq
            dsimp only at h9R
            rw [h9R] at hH
            have hr60 := hrq
            have hF := hF r60 hrq X58 hH.2.2.1 Y59 hH.2.2.2 hq
            obtain ⟨o61, hF⟩ := hF
            refine zgov (zrunV (As := [.int (zI (r60))]) (rest := []) C hE hH hS hl.1 (c_X2_goTo (l := l) hC (r60) hr60 o61) k_RX2_87 ⟨Nat.le_of_ble_eq_true rfl, Nat.le_of_ble_eq_true rfl⟩ (zCo_n hC) (zCo_k hC) rfl rfl rfl (Nat.le_of_ble_eq_true rfl) dX2_act_143 ⟨Nat.zero_le _, Nat.zero_le _⟩) hS (fun X62 Yq Rq H locs hq hH hS => ?_)
            obtain ⟨h9Y, h9R, hq⟩ := hq
            dsimp only at h9Y h9R
            rw [h9Y, h9R] at hH
            have hF := hF X62 hH.2.2.1 hq
            refine lv_aload_n C.1 C.2.1 dX2_act_146 rfl (lv_at hl 0 rfl) ?_
            refine lv_dup C.1 C.2.1 dX2_act_147 rfl ?_
            refine zg2_9 C hH (zCo_n hC) (zCo_k hC) q_463 dX2_act_148 ?_
            refine zd_iconst C dX2_act_151 ?_
            refine zd_iadd C dX2_act_152 ?_
            obtain ⟨o63, hF⟩ := hF
            refine zp2_9 C hH hS (zCo_n hC) (zCo_k hC) q_463 o63 dX2_act_153 (fun H locs hH hS => ?_)
            obtain ⟨X64, eX64⟩ : ∃ z, z = zU X62 (i + 47) 9 ((X62 (i + 47) 9) + 1) := ⟨_, rfl⟩
            rw [← eX64] at hH
            have hF := hF X64 eX64 hH.2.2.1
            refine zd_iconst C dX2_act_156 ?_
            exact zd_zret C hr hlk hH hS (by decide) (⟨rfl, _, rfl, hF⟩) dX2_act_157
        · have hF := hF.2
          have c3 := tsw_0_2 (a) c3_0 c3_1 c3_2
          have hF := hF c3
          refine zd_tabO C ha 101 c3 dX2_act_12 (by decide) ?_
          refine lv_aload_n C.1 C.2.1 dX2_act_101 rfl (lv_at hl 0 rfl) ?_
          refine lv_iload_n C.1 C.2.1 dX2_act_102 rfl (lv_at hl 2 rfl) ?_
          refine zp2_4 C hH hS (zCo_n hC) (zCo_k hC) q_452 hb dX2_act_103 (fun H locs hH hS => ?_)
          obtain ⟨X65, eX65⟩ : ∃ z, z = zU X (i + 47) 4 (b) := ⟨_, rfl⟩
          rw [← eX65] at hH
          have hF := hF X65 eX65 hH.2.2.1
          refine lv_aload_n C.1 C.2.1 dX2_act_106 rfl (lv_at hl 0 rfl) ?_
          obtain ⟨o66, hF⟩ := hF
          refine zgov (zrunV (As := []) (rest := []) C hE hH hS hl.1 (c_X2_becomeWhole (l := l) hC  o66) k_RX2_75 ⟨Nat.le_of_ble_eq_true rfl, Nat.le_of_ble_eq_true rfl⟩ (zCo_n hC) (zCo_k hC) rfl rfl rfl (Nat.le_of_ble_eq_true rfl) dX2_act_107 ⟨Nat.zero_le _, Nat.zero_le _⟩) hS (fun X67 Yq Rq H locs hq hH hS => ?_)
          obtain ⟨h9Y, h9R, hq⟩ := hq
          dsimp only at h9Y h9R
          rw [h9Y, h9R] at hH
          have hF := hF X67 hH.2.2.1 hq
          refine lv_aload_n C.1 C.2.1 dX2_act_110 rfl (lv_at hl 0 rfl) ?_
          refine lv_aload_n C.1 C.2.1 dX2_act_111 rfl (lv_at hl 0 rfl) ?_
          refine zg2_0 C hH (zCo_n hC) (zCo_k hC) q_448 (zCo_r0 hC) dX2_act_112 ?_
          refine lv_aload_n C.1 C.2.1 dX2_act_115 rfl (lv_at hl 0 rfl) ?_
          refine zg2_7 C hH (zCo_n hC) (zCo_k hC) q_458 dX2_act_116 ?_
          refine lv_aload_n C.1 C.2.1 dX2_act_119 rfl (lv_at hl 0 rfl) ?_
          refine zg2_4 C hH (zCo_n hC) (zCo_k hC) q_452 dX2_act_120 ?_
          refine lv_aload_n C.1 C.2.1 dX2_act_123 rfl (lv_at hl 0 rfl) ?_
          refine zg2_1 C hH (zCo_n hC) (zCo_k hC) q_449 dX2_act_124 ?_
          refine zd_if_ne C (hH.2.2.1 _ _) 137 dX2_act_127 (by decide) (fun c68 => ?_) (fun c68 => ?_)
          · have hF := hF.1 c68
            refine zd_getsN C hE hS (own := "WorkChains$Course") (ix := 78) (C9 := "WorkChains") (n9 := "BY_NUMBER") (host := "WorkChains") (by decide +kernel) hE.2.2.1.1 dX2_act_137 ?_
            obtain ⟨o69, hF⟩ := hF
            refine zgoi (zrunV (As := [.int (zI (X67 (i + 47) 7)), .int (zI (X67 (i + 47) 4)), .ref (sa 0)]) (rest := [.ref (bs + (i + 47))]) C hE hH hS hl.1 (c_X1_chooseS (l := l) hC.1 (X67 (i + 47) 7) (hH.2.2.1 _ _) (X67 (i + 47) 4) (hH.2.2.1 _ _) o69) k_RX2_81 ⟨Nat.le_of_ble_eq_true rfl, Nat.le_of_ble_eq_true rfl⟩ (zChart_n0 hC.1) (zChart_k0 hC.1) rfl rfl rfl (Nat.le_of_ble_eq_true rfl) dX2_act_140 ⟨Nat.zero_le _, Nat.zero_le _⟩) hS (fun r72 X70 Y71 Rq H locs hrq hq hH hS => ?_)
            obtain ⟨h9R, hq⟩ := hq
            dsimp only at h9R
            rw [h9R] at hH
            have hr72 := hrq
            have hF := hF r72 hrq X70 hH.2.2.1 Y71 hH.2.2.2 hq
            obtain ⟨o73, hF⟩ := hF
            refine zgov (zrunV (As := [.int (zI (r72))]) (rest := []) C hE hH hS hl.1 (c_X2_goTo (l := l) hC (r72) hr72 o73) k_RX2_87 ⟨Nat.le_of_ble_eq_true rfl, Nat.le_of_ble_eq_true rfl⟩ (zCo_n hC) (zCo_k hC) rfl rfl rfl (Nat.le_of_ble_eq_true rfl) dX2_act_143 ⟨Nat.zero_le _, Nat.zero_le _⟩) hS (fun X74 Yq Rq H locs hq hH hS => ?_)
            obtain ⟨h9Y, h9R, hq⟩ := hq
            dsimp only at h9Y h9R
            rw [h9Y, h9R] at hH
            have hF := hF X74 hH.2.2.1 hq
            refine lv_aload_n C.1 C.2.1 dX2_act_146 rfl (lv_at hl 0 rfl) ?_
            refine lv_dup C.1 C.2.1 dX2_act_147 rfl ?_
            refine zg2_9 C hH (zCo_n hC) (zCo_k hC) q_463 dX2_act_148 ?_
            refine zd_iconst C dX2_act_151 ?_
            refine zd_iadd C dX2_act_152 ?_
            obtain ⟨o75, hF⟩ := hF
            refine zp2_9 C hH hS (zCo_n hC) (zCo_k hC) q_463 o75 dX2_act_153 (fun H locs hH hS => ?_)
            obtain ⟨X76, eX76⟩ : ∃ z, z = zU X74 (i + 47) 9 ((X74 (i + 47) 9) + 1) := ⟨_, rfl⟩
            rw [← eX76] at hH
            have hF := hF X76 eX76 hH.2.2.1
            refine zd_iconst C dX2_act_156 ?_
            exact zd_zret C hr hlk hH hS (by decide) (⟨rfl, _, rfl, hF⟩) dX2_act_157
          · have hF := hF.2 c68
            refine lv_aload_n C.1 C.2.1 dX2_act_130 rfl (lv_at hl 0 rfl) ?_
            refine zg2_3 C hH (zCo_n hC) (zCo_k hC) q_451 (zCo_r3 hC) dX2_act_131 ?_
            refine lv_goto (tgt := 140) C.1 C.2.1 dX2_act_134 (by decide) ?_
            obtain ⟨o77, hF⟩ := hF
            refine zgoi (zrunV (As := [.int (zI (X67 (i + 47) 7)), .int (zI (X67 (i + 47) 4)), .ref (bs + (i + 48))]) (rest := [.ref (bs + (i + 47))]) C hE hH hS hl.1 (c_X1_choose (l := l) hC.1 ⟨(zCo_n8 hC), (zCo_k8 hC), zCo_l8 hC⟩ (X67 (i + 47) 7) (hH.2.2.1 _ _) (X67 (i + 47) 4) (hH.2.2.1 _ _) o77) k_RX2_81 ⟨Nat.le_of_ble_eq_true rfl, Nat.le_of_ble_eq_true rfl⟩ (zChart_n0 hC.1) (zChart_k0 hC.1) rfl rfl rfl (Nat.le_of_ble_eq_true rfl) dX2_act_140 ⟨Nat.zero_le _, Nat.zero_le _⟩) hS (fun r80 X78 Y79 Rq H locs hrq hq hH hS => ?_)
            obtain ⟨h9R, hq⟩ := hq
            dsimp only at h9R
            rw [h9R] at hH
            have hr80 := hrq
            have hF := hF r80 hrq X78 hH.2.2.1 Y79 hH.2.2.2 hq
            obtain ⟨o81, hF⟩ := hF
            refine zgov (zrunV (As := [.int (zI (r80))]) (rest := []) C hE hH hS hl.1 (c_X2_goTo (l := l) hC (r80) hr80 o81) k_RX2_87 ⟨Nat.le_of_ble_eq_true rfl, Nat.le_of_ble_eq_true rfl⟩ (zCo_n hC) (zCo_k hC) rfl rfl rfl (Nat.le_of_ble_eq_true rfl) dX2_act_143 ⟨Nat.zero_le _, Nat.zero_le _⟩) hS (fun X82 Yq Rq H locs hq hH hS => ?_)
            obtain ⟨h9Y, h9R, hq⟩ := hq
            dsimp only at h9Y h9R
            rw [h9Y, h9R] at hH
            have hF := hF X82 hH.2.2.1 hq
            refine lv_aload_n C.1 C.2.1 dX2_act_146 rfl (lv_at hl 0 rfl) ?_
            refine lv_dup C.1 C.2.1 dX2_act_147 rfl ?_
            refine zg2_9 C hH (zCo_n hC) (zCo_k hC) q_463 dX2_act_148 ?_
            refine zd_iconst C dX2_act_151 ?_
            refine zd_iadd C dX2_act_152 ?_
            obtain ⟨o83, hF⟩ := hF
            refine zp2_9 C hH hS (zCo_n hC) (zCo_k hC) q_463 o83 dX2_act_153 (fun H locs hH hS => ?_)
            obtain ⟨X84, eX84⟩ : ∃ z, z = zU X82 (i + 47) 9 ((X82 (i + 47) 9) + 1) := ⟨_, rfl⟩
            rw [← eX84] at hH
            have hF := hF X84 eX84 hH.2.2.1
            refine zd_iconst C dX2_act_156 ?_
            exact zd_zret C hr hlk hH hS (by decide) (⟨rfl, _, rfl, hF⟩) dX2_act_157
  · have hF := hF.2 c2
    refine zd_iconst C dX2_act_9 ?_
    exact zd_zret C hr hlk hH hS (by decide) (⟨rfl, _, rfl, hF⟩) dX2_act_10
theorem v_X2_act {X Y : Nat → Int → Int} {R : Nat → Int → Option Nat} {i : Nat} {Z : Nat → Int → Int} {q : Nat} (a : Int) (ha : rI a) (b : Int) (hb : rI b) (hp : (cA Z q X Y R i ∧ (0 ≤ X (i + 47) 9 ∧ X (i + 47) 9 ≤ 100000)) ∧ ((0 ≤ a ∧ a ≤ 3) ∧ (a = 3 → 0 ≤ b ∧ b ≤ 1)) ∧ ∃ bb t, bb ≤ 900000 ∧ coS Z q X i bb t) : F_X2_act i Z q X Y R a b := by
  unfold F_X2_act
  intro hX hY
  obtain ⟨⟨hq, hd9⟩, ⟨ha, hab⟩, bb, t, hbb, hS⟩ := hp
  obtain ⟨l27, r27, e27⟩ := cA_l hq
  refine ⟨?_, ?_⟩
  · exact ⟨hq, ha, hab⟩
  refine ⟨?_, ?_⟩
  · intro c1
    refine ⟨?_, ?_⟩
    · intro c2
      intro X4
      intro eX4
      have ea : a = 0 := by omega
      have eD : coT X4 i = csD0 (coT X i) a b := by
        rw [ea]
        refine Prod.ext ?_ (funext fun j => ?_)
        · show coX X4 i = cU (coX X i) 1 (zOr (X (i + 47) 5) (zShl 1 b))
          rw [eX4, coX_5]
        · show X4 (i + 48) j = X (i + 48) j
          rw [eX4, zU_o (by omega)]
      have oD : ∀ z, z ≠ i + 47 → X4 z = X z := fun z h => by rw [eX4, zU_o h]
      have sD : ∀ s, s = 1 ∨ s = 9 ∨ s = 14 → X4 (i + 47) s = X (i + 47) s := fun s h => by rw [eX4, zU_n (by omega)]
      have A1 := act_1 hq hS hbb hab eD oD
      intro rX4
      refine ⟨?_, ?_⟩
      · exact A1
      intro X6
      intro rX6
      intro h1
      have A2 := act_2 A1.1 hS A1.2 eD h1
      have A9 : X6 (i + 47) 1 = X (i + 47) 1 := by rw [h1.2.2 1 (by decide) (by decide), sD 1 (by omega)]
      refine ⟨?_, ?_⟩
      · intro c3
        refine ⟨?_, ?_⟩
        · exact ⟨A2.1, A2.2.1⟩
        intro r11
        intro _
        intro X9
        intro rX9
        intro Y10
        intro rY10
        intro h2
        have T := tip_s h2.1 c3
        have A3 := act_3 A2.1 A2.2.2 T h2.2
        refine ⟨?_, ?_⟩
        · exact A3
        intro X13
        intro rX13
        intro h3
        have g9 : X13 (i + 47) 9 = X (i + 47) 9 := by rw [h3.2.2.2.1, h2.2.1 _ (by omega), h1.2.2 9 (by decide) (by decide), sD 9 (by omega)]
        refine ⟨?_, ?_⟩
        · rw [g9]
          exact ⟨by omega, by omega⟩
        intro X15
        intro eX15
        intro rX15
        exact act_4 hq hX ha hab c1 eD oD sD h1 T h2.2 h3 eX15
      intro c4
      refine ⟨?_, ?_⟩
      · exact ⟨A2.1, A2.2.1, by omega, by omega⟩
      intro r19
      intro _
      intro X17
      intro rX17
      intro Y18
      intro rY18
      intro h4
      have T := tip_r h4.1 (Classical.not_not.mp c4)
      have A3 := act_3 A2.1 A2.2.2 T h4.2
      refine ⟨?_, ?_⟩
      · exact A3
      intro X21
      intro rX21
      intro h5
      have g9 : X21 (i + 47) 9 = X (i + 47) 9 := by rw [h5.2.2.2.1, h4.2.1 _ (by omega), h1.2.2 9 (by decide) (by decide), sD 9 (by omega)]
      refine ⟨?_, ?_⟩
      · rw [g9]
        exact ⟨by omega, by omega⟩
      intro X23
      intro eX23
      intro rX23
      exact act_4 hq hX ha hab c1 eD oD sD h1 T h4.2 h5 eX23
    refine ⟨?_, ?_⟩
    · intro c5
      intro X24
      intro eX24
      have ea : a = 1 := by omega
      have eD : coT X24 i = csD0 (coT X i) a b := by
        rw [ea]
        refine Prod.ext ?_ (funext fun j => ?_)
        · show coX X24 i = cU (coX X i) 2 (zOr (X (i + 47) 6) (zShl 1 b))
          rw [eX24, coX_6]
        · show X24 (i + 48) j = X (i + 48) j
          rw [eX24, zU_o (by omega)]
      have oD : ∀ z, z ≠ i + 47 → X24 z = X z := fun z h => by rw [eX24, zU_o h]
      have sD : ∀ s, s = 1 ∨ s = 9 ∨ s = 14 → X24 (i + 47) s = X (i + 47) s := fun s h => by rw [eX24, zU_n (by omega)]
      have A1 := act_1 hq hS hbb hab eD oD
      intro rX24
      refine ⟨?_, ?_⟩
      · exact A1
      intro X26
      intro rX26
      intro h6
      have A2 := act_2 A1.1 hS A1.2 eD h6
      have A9 : X26 (i + 47) 1 = X (i + 47) 1 := by rw [h6.2.2 1 (by decide) (by decide), sD 1 (by omega)]
      refine ⟨?_, ?_⟩
      · intro c6
        refine ⟨?_, ?_⟩
        · exact ⟨A2.1, A2.2.1⟩
        intro r31
        intro _
        intro X29
        intro rX29
        intro Y30
        intro rY30
        intro h7
        have T := tip_s h7.1 c6
        have A3 := act_3 A2.1 A2.2.2 T h7.2
        refine ⟨?_, ?_⟩
        · exact A3
        intro X33
        intro rX33
        intro h8
        have g9 : X33 (i + 47) 9 = X (i + 47) 9 := by rw [h8.2.2.2.1, h7.2.1 _ (by omega), h6.2.2 9 (by decide) (by decide), sD 9 (by omega)]
        refine ⟨?_, ?_⟩
        · rw [g9]
          exact ⟨by omega, by omega⟩
        intro X35
        intro eX35
        intro rX35
        exact act_4 hq hX ha hab c1 eD oD sD h6 T h7.2 h8 eX35
      intro c7
      refine ⟨?_, ?_⟩
      · exact ⟨A2.1, A2.2.1, by omega, by omega⟩
      intro r39
      intro _
      intro X37
      intro rX37
      intro Y38
      intro rY38
      intro h9
      have T := tip_r h9.1 (Classical.not_not.mp c7)
      have A3 := act_3 A2.1 A2.2.2 T h9.2
      refine ⟨?_, ?_⟩
      · exact A3
      intro X41
      intro rX41
      intro h10
      have g9 : X41 (i + 47) 9 = X (i + 47) 9 := by rw [h10.2.2.2.1, h9.2.1 _ (by omega), h6.2.2 9 (by decide) (by decide), sD 9 (by omega)]
      refine ⟨?_, ?_⟩
      · rw [g9]
        exact ⟨by omega, by omega⟩
      intro X43
      intro eX43
      intro rX43
      exact act_4 hq hX ha hab c1 eD oD sD h6 T h9.2 h10 eX43
    refine ⟨?_, ?_⟩
    · intro c8
      intro X44
      intro eX44
      intro rX44
      intro X45
      intro eX45
      have ea : a = 2 := by omega
      have eD : coT X45 i = csD0 (coT X i) a b := by
        rw [ea]
        refine Prod.ext ?_ (funext fun j => ?_)
        · show coX X45 i = cU (cU (coX X i) 1 (zAnd (X (i + 47) 5) (zXor (zShl 1 b) (-1)))) 2 (zAnd (X (i + 47) 6) (zXor (zShl 1 b) (-1)))
          rw [eX45, coX_6, eX44, coX_5, zU_n (by omega)]
        · show X45 (i + 48) j = X (i + 48) j
          rw [eX45, zU_o (by omega), eX44, zU_o (by omega)]
      have oD : ∀ z, z ≠ i + 47 → X45 z = X z := fun z h => by rw [eX45, zU_o h, eX44, zU_o h]
      have sD : ∀ s, s = 1 ∨ s = 9 ∨ s = 14 → X45 (i + 47) s = X (i + 47) s := fun s h => by rw [eX45, zU_n (by omega), eX44, zU_n (by omega)]
      have A1 := act_1 hq hS hbb hab eD oD
      intro rX45
      refine ⟨?_, ?_⟩
      · exact A1
      intro X47
      intro rX47
      intro h11
      have A2 := act_2 A1.1 hS A1.2 eD h11
      have A9 : X47 (i + 47) 1 = X (i + 47) 1 := by rw [h11.2.2 1 (by decide) (by decide), sD 1 (by omega)]
      refine ⟨?_, ?_⟩
      · intro c9
        refine ⟨?_, ?_⟩
        · exact ⟨A2.1, A2.2.1⟩
        intro r52
        intro _
        intro X50
        intro rX50
        intro Y51
        intro rY51
        intro h12
        have T := tip_s h12.1 c9
        have A3 := act_3 A2.1 A2.2.2 T h12.2
        refine ⟨?_, ?_⟩
        · exact A3
        intro X54
        intro rX54
        intro h13
        have g9 : X54 (i + 47) 9 = X (i + 47) 9 := by rw [h13.2.2.2.1, h12.2.1 _ (by omega), h11.2.2 9 (by decide) (by decide), sD 9 (by omega)]
        refine ⟨?_, ?_⟩
        · rw [g9]
          exact ⟨by omega, by omega⟩
        intro X56
        intro eX56
        intro rX56
        exact act_4 hq hX ha hab c1 eD oD sD h11 T h12.2 h13 eX56
      intro c10
      refine ⟨?_, ?_⟩
      · exact ⟨A2.1, A2.2.1, by omega, by omega⟩
      intro r60
      intro _
      intro X58
      intro rX58
      intro Y59
      intro rY59
      intro h14
      have T := tip_r h14.1 (Classical.not_not.mp c10)
      have A3 := act_3 A2.1 A2.2.2 T h14.2
      refine ⟨?_, ?_⟩
      · exact A3
      intro X62
      intro rX62
      intro h15
      have g9 : X62 (i + 47) 9 = X (i + 47) 9 := by rw [h15.2.2.2.1, h14.2.1 _ (by omega), h11.2.2 9 (by decide) (by decide), sD 9 (by omega)]
      refine ⟨?_, ?_⟩
      · rw [g9]
        exact ⟨by omega, by omega⟩
      intro X64
      intro eX64
      intro rX64
      exact act_4 hq hX ha hab c1 eD oD sD h11 T h14.2 h15 eX64
    intro c11
    intro X65
    intro eX65
    have ea : a = 3 := by omega
    have eD : coT X65 i = csD0 (coT X i) a b := by
      rw [ea]
      refine Prod.ext ?_ (funext fun j => ?_)
      · show coX X65 i = cU (coX X i) 0 b
        rw [eX65, coX_4]
      · show X65 (i + 48) j = X (i + 48) j
        rw [eX65, zU_o (by omega)]
    have oD : ∀ z, z ≠ i + 47 → X65 z = X z := fun z h => by rw [eX65, zU_o h]
    have sD : ∀ s, s = 1 ∨ s = 9 ∨ s = 14 → X65 (i + 47) s = X (i + 47) s := fun s h => by rw [eX65, zU_n (by omega)]
    have A1 := act_1 hq hS hbb hab eD oD
    intro rX65
    refine ⟨?_, ?_⟩
    · exact A1
    intro X67
    intro rX67
    intro h16
    have A2 := act_2 A1.1 hS A1.2 eD h16
    have A9 : X67 (i + 47) 1 = X (i + 47) 1 := by rw [h16.2.2 1 (by decide) (by decide), sD 1 (by omega)]
    refine ⟨?_, ?_⟩
    · intro c12
      refine ⟨?_, ?_⟩
      · exact ⟨A2.1, A2.2.1⟩
      intro r72
      intro _
      intro X70
      intro rX70
      intro Y71
      intro rY71
      intro h17
      have T := tip_s h17.1 c12
      have A3 := act_3 A2.1 A2.2.2 T h17.2
      refine ⟨?_, ?_⟩
      · exact A3
      intro X74
      intro rX74
      intro h18
      have g9 : X74 (i + 47) 9 = X (i + 47) 9 := by rw [h18.2.2.2.1, h17.2.1 _ (by omega), h16.2.2 9 (by decide) (by decide), sD 9 (by omega)]
      refine ⟨?_, ?_⟩
      · rw [g9]
        exact ⟨by omega, by omega⟩
      intro X76
      intro eX76
      intro rX76
      exact act_4 hq hX ha hab c1 eD oD sD h16 T h17.2 h18 eX76
    intro c13
    refine ⟨?_, ?_⟩
    · exact ⟨A2.1, A2.2.1, by omega, by omega⟩
    intro r80
    intro _
    intro X78
    intro rX78
    intro Y79
    intro rY79
    intro h19
    have T := tip_r h19.1 (Classical.not_not.mp c13)
    have A3 := act_3 A2.1 A2.2.2 T h19.2
    refine ⟨?_, ?_⟩
    · exact A3
    intro X82
    intro rX82
    intro h20
    have g9 : X82 (i + 47) 9 = X (i + 47) 9 := by rw [h20.2.2.2.1, h19.2.1 _ (by omega), h16.2.2 9 (by decide) (by decide), sD 9 (by omega)]
    refine ⟨?_, ?_⟩
    · rw [g9]
      exact ⟨by omega, by omega⟩
    intro X84
    intro eX84
    intro rX84
    exact act_4 hq hX ha hab c1 eD oD sD h16 T h19.2 h20 eX84
  intro c14
  exact ⟨c14.symm, fun _ => ⟨rfl, rfl⟩, (fun g => by cases g)⟩
theorem c_X2_act {l : Launch} {D : va_G} {cy : Nat → ClassId} {bs N : Nat} {sa : Nat → Nat} {kd len : Nat → Nat} {X Y : Nat → Int → Int} {R : Nat → Int → Option Nat} {i : Nat} {Z : Nat → Int → Int} {q : Nat} (hC : zCourse N kd len R i) (a : Int) (ha : rI a) (b : Int) (hb : rI b) (hp : (cA Z q X Y R i ∧ (0 ≤ X (i + 47) 9 ∧ X (i + 47) 9 ≤ 100000)) ∧ ((0 ≤ a ∧ a ≤ 3) ∧ (a = 3 → 0 ≤ b ∧ b ≤ 1)) ∧ ∃ bb t, bb ≤ 900000 ∧ coS Z q X i bb t) : Met l yX2_act (.code yX2_act cX2_act 3 (some .boolean) :: zTB) (zRm 2 82) (zPc D cy bs sa N kd len X Y R [.ref (bs + (i + 47)), .int (zI (a)), .int (zI (b))]) (zQi D cy bs N kd len (fun r st => st.2.2 = R ∧ ∃ rb : Bool, r = bz rb ∧ (rb = csOk (Z q 27).toNat (coX X i) (a) (b) ∧ (rb = false → (st.1) = X ∧ (st.2.1) = Y) ∧ (rb = true → cfK X (st.1) Y (st.2.1) i ∧ ac14 X (st.1) i ∧ ∀ bb t, coS Z q X i bb t → coS Z q (st.1) i (bb + 15) (csDo (cx9 Z q (X (i + 47) 1)) t (a) (b)))))) 0 0 (zA bs) := w_X2_act hC a ha b hb (v_X2_act a ha b hb hp)
abbrev cX2_stir : ByteArray := prog_4_method_12_code
def yX2_stir : MethodName := ⟨RX2, "stir", "(I)I"⟩
theorem dX2_stir_0 : decode cX2_stir 0 = .ok (.iload_n 0, 1) := by decide +kernel
theorem dX2_stir_1 : decode cX2_stir 1 = .ok (.ldc 124, 2) := by decide +kernel
theorem dX2_stir_3 : decode cX2_stir 3 = .ok (.imul, 1) := by decide +kernel
theorem dX2_stir_4 : decode cX2_stir 4 = .ok (.sipush 12345, 3) := by decide +kernel
theorem dX2_stir_7 : decode cX2_stir 7 = .ok (.iadd, 1) := by decide +kernel
theorem dX2_stir_8 : decode cX2_stir 8 = .ok (.ireturn, 1) := by decide +kernel
theorem q_1039 : Cond.constant RX2 124 (zI (1103515245)) ∈ zTB := zmem 1039 (by decide +kernel) rfl
def F_X2_stir (X Y : Nat → Int → Int) (R : Nat → Int → Option Nat) (a : Int) : Prop := (∀ i j, rI (X i j)) → (∀ i j, rL (Y i j)) → zW ((a * (1103515245)) + 12345) = drS (a)
set_option maxHeartbeats 4000000 in
set_option maxRecDepth 100000 in
theorem w_X2_stir {l : Launch} {D : va_G} {cy : Nat → ClassId} {bs N : Nat} {sa : Nat → Nat} {kd len : Nat → Nat} {X Y : Nat → Int → Int} {R : Nat → Int → Option Nat}  (a : Int) (ha : rI a) (hF : F_X2_stir  X Y R a) : Met l yX2_stir (.code yX2_stir cX2_stir 1 (some .int) :: zTB) (zRm 0 0) (zPc D cy bs sa N kd len X Y R [.int (zI (a))]) (zQi D cy bs N kd len (fun r st => r = drS (a) ∧ st = (X, Y, R))) 0 0 (zA bs) := by
  refine zstart (by decide) (Nat.le_of_ble_eq_true rfl) ?_
  intro p e s m args below meth c ls C hE hH hr hlk hnm hl hargs
  have hF := hF hH.2.2.1 hH.2.2.2
  have hS : va_S (zA bs) s.heap s.heap [] := va_S.rf
  have hl : lv_has ls 1 [(0, .int (zI (a)))] := hl
  refine lv_iload_n C.1 C.2.1 dX2_stir_0 rfl (lv_at hl 0 rfl) ?_
  refine lv_ldc (v := zI (1103515245)) C.1 C.2.1 C.2.2.2.1 (C.2.2.2.2.1 _ q_1039) dX2_stir_1 ?_
  refine zd_imul C dX2_stir_3 ?_
  refine zd_sipush C (by decide) dX2_stir_4 ?_
  refine zd_iadd C dX2_stir_7 ?_
  rw [show zI ((a * (1103515245)) + 12345) = zI (zW ((a * (1103515245)) + 12345)) from (zI_zW _).symm]
  exact zd_iret C hr hlk hH hS (zW_rg _) (⟨hF, rfl⟩) dX2_stir_8
theorem v_X2_stir {X Y : Nat → Int → Int} {R : Nat → Int → Option Nat}  (a : Int) (ha : rI a) : F_X2_stir  X Y R a := by
  unfold F_X2_stir
  intro hX hY
  rfl
theorem c_X2_stir {l : Launch} {D : va_G} {cy : Nat → ClassId} {bs N : Nat} {sa : Nat → Nat} {kd len : Nat → Nat} {X Y : Nat → Int → Int} {R : Nat → Int → Option Nat}  (a : Int) (ha : rI a) : Met l yX2_stir (.code yX2_stir cX2_stir 1 (some .int) :: zTB) (zRm 0 0) (zPc D cy bs sa N kd len X Y R [.int (zI (a))]) (zQi D cy bs N kd len (fun r st => r = drS (a) ∧ st = (X, Y, R))) 0 0 (zA bs) := w_X2_stir  a ha (v_X2_stir a ha)
