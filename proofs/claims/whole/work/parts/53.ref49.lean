/-! NUMBERS TAKEN -/
theorem tkE_le {T : Int → Int} {n q : Nat} (h : q ≤ n) : q ≤ tkE T n q ∧ tkE T n q ≤ n ∧ (tkK T n q ≠ 0 → q < tkE T n q) := by
  have a := en_c (f := isLe) (T := T) h
  have b := en_c (f := isDi) (T := T) h
  unfold tkE tkK
  by_cases c : n ≤ q
  · rw [if_pos c, if_pos c]
    exact ⟨Nat.le_refl _, h, fun g => absurd rfl g⟩
  · rw [if_neg c, if_neg c]
    cases hl : isLe (T q) with
    | true =>
      have a2 := en_c (f := isLe) (T := T) (n := n) (p := q + 1) (by omega)
      rw [if_pos rfl]
      refine ⟨a.1, a.2, fun _ => ?_⟩
      rw [en_s (by omega) hl]
      omega
    | false =>
      rw [if_neg (by decide)]
      cases hd : isDi (T q) with
      | true =>
        have b2 := en_c (f := isDi) (T := T) (n := n) (p := q + 1) (by omega)
        rw [if_pos rfl]
        refine ⟨b.1, b.2, fun _ => ?_⟩
        rw [en_s (by omega) hd]
        omega
      | false =>
        rw [if_neg (by decide)]
        exact ⟨by omega, by omega, fun _ => by omega⟩
theorem tk_le {T : Int → Int} {n p : Nat} (h : p ≤ n) : (p ≤ tkB T n p ∧ tkB T n p ≤ n) ∧ (tkB T n p ≤ tkN T n p ∧ tkN T n p ≤ n) ∧ (tkS T n p ≠ 0 → tkB T n p < tkN T n p ∧ tkB T n p < tkB T n (tkN T n p)) := by
  have a := en_c (f := isBl) (T := T) h
  have b := tkE_le (T := T) (q := tkB T n p) a.2
  have c := en_c (f := isBl) (T := T) b.2.1
  refine ⟨a, ⟨b.1, b.2.1⟩, fun g => ⟨b.2.2 g, ?_⟩⟩
  have := b.2.2 g
  have c1 : tkN T n p ≤ tkB T n (tkN T n p) := c.1
  have e : tkN T n p = tkE T n (tkB T n p) := rfl
  omega
theorem tkV_b {T : Int → Int} {n p : Nat} (h : tkS T n p = 3) : 0 ≤ tkV T n p ∧ tkV T n p ≤ 99 := by
  unfold tkS tkK at h
  by_cases c : n ≤ tkB T n p
  · rw [if_pos c] at h
    exact absurd h (by decide)
  · rw [if_neg c] at h
    cases hl : isLe (T (tkB T n p)) with
    | true => rw [hl, if_pos rfl] at h; exact absurd h (by decide)
    | false =>
      rw [hl, if_neg (by decide)] at h
      cases hd : isDi (T (tkB T n p)) with
      | false =>
        rw [hd, if_neg (by decide)] at h
        split at h <;> exact absurd h (by decide)
      | true =>
        have hN : tkN T n p = en isDi T n (tkB T n p) := by
          unfold tkN tkE
          rw [if_neg c, hl, hd]
          rfl
        have all : ∀ d q, en isDi T n q - q = d → q ≤ n → ∀ j, j < d → isDi (T ((q + j : Nat) : Int)) = true := by
          intro d
          induction d with
          | zero => intro q _ _ j hj; exact absurd hj (Nat.not_lt_zero _)
          | succ d ih =>
            intro q hq qn j hj
            by_cases g : q < n ∧ isDi (T q) = true
            · by_cases j0 : j = 0
              · rw [j0]
                exact g.2
              · have e := en_s g.1 g.2
                have b := en_c (f := isDi) (T := T) (n := n) (p := q + 1) (by omega)
                have := ih (q + 1) (by omega) (by omega) (j - 1) (by omega)
                rw [show q + 1 + (j - 1) = q + j by omega] at this
                exact this
            · rw [en_0 g] at hq
              omega
        have v := vaN_b (T := T) (q := tkB T n p) (en isDi T n (tkB T n p) - tkB T n p) (all _ _ rfl (by omega))
        unfold tkV
        rw [hN]
        exact ⟨v.1, v.2.1⟩
/-- the token at hand -/
def tkAt (X Y : Nat → Int → Int) (i p : Nat) : Prop := X i 11 = tkN (X (i + 1)) (X i 12).toNat p ∧ X i 13 = tkB (X (i + 1)) (X i 12).toNat p ∧ X i 14 = tkS (X (i + 1)) (X i 12).toNat p ∧ (X i 14 = 3 → X i 15 = tkV (X (i + 1)) (X i 12).toNat p) ∧ (X i 14 = 2 → Y i 16 = tkW (X (i + 1)) (X i 12).toNat p)
def adF (X : Nat → Int → Int) (i : Nat) (f pl : Int) : Nat → Int → Int := if X i 18 = 0 ∨ pl < X i 19 ∨ (pl = X i 19 ∧ f < X i 18) then zU (zU X i 18 f) i 19 pl else X
def tbX (X : Nat → Int → Int) (i : Nat) (k low high but : Int) : Nat → Int → Int := if mIn (X i 15) low high && decide (X i 15 ≠ but) then zU X (i + 12) k (X i 15) else zU (adF (zU X (i + 12) k (X i 15)) i 2 (X i 13)) i 22 0
theorem adF_o {X : Nat → Int → Int} {i : Nat} {f pl : Int} : (∀ z, z ≠ i → adF X i f pl z = X z) ∧ ∀ s, s ≠ 18 → s ≠ 19 → adF X i f pl i s = X i s := by
  unfold adF
  split
  · exact ⟨fun z h => by rw [zU_o h, zU_o h], fun s h1 h2 => by rw [zU_n (by omega), zU_n (by omega)]⟩
  · exact ⟨fun _ _ => rfl, fun _ _ _ => rfl⟩
theorem tbX_o {X : Nat → Int → Int} {i : Nat} {k low high but : Int} : (∀ z, z ≠ i → z ≠ i + 12 → tbX X i k low high but z = X z) ∧ (∀ s, s ≠ 18 → s ≠ 19 → s ≠ 22 → tbX X i k low high but i s = X i s) ∧ tbX X i k low high but (i + 12) = upI (X (i + 12)) k (X i 15) := by
  unfold tbX
  split
  · exact ⟨fun z h1 h2 => by rw [zU_o h2], fun s _ _ _ => by rw [zU_o (by omega)], zU_up⟩
  · refine ⟨fun z h1 h2 => by rw [zU_o h1, adF_o.1 z h1, zU_o h2], fun s h1 h2 h3 => by rw [zU_n (by omega), adF_o.2 s h1 h2, zU_o (by omega)], ?_⟩
    rw [zU_o (by omega), adF_o.1 _ (by omega), zU_up]
theorem oRd_k {X X1 : Nat → Int → Int} {i : Nat} (h1 : X1 (i + 1) = X (i + 1)) (h2 : X1 i 11 = X i 11) (h3 : X1 i 12 = X i 12) (h : oRd X i) : oRd X1 i := by
  unfold oRd oTb at h ⊢
  rw [h1, h2, h3]
  exact h
theorem oRd_t {X X1 Y Y1 : Nat → Int → Int} {i : Nat} (h : oRd X i) (c : tkC X X1 Y Y1 i) (e : X1 i 11 = tkN (X (i + 1)) (X i 12).toNat (X i 11).toNat) : oRd X1 i := by
  have l := c.2.1 12 (by decide) (by decide) (by decide) (by decide)
  have t := (tk_le (T := X (i + 1)) (n := (X i 12).toNat) (p := (X i 11).toNat) (by have := h.2.1; omega)).2.1
  refine ⟨fun y y0 y1 => by rw [c.1 _ (by omega)]; exact h.1 y y0 y1, ⟨by omega, ?_⟩, by rw [l]; exact h.2.2⟩
  have := h.2.1
  rw [l, e]
  omega
theorem oRd_b {X : Nat → Int → Int} {i : Nat} {k low high but : Int} (h : oRd X i) : oRd (tbX X i k low high but) i := oRd_k (tbX_o.1 _ (by omega) (by omega)) (tbX_o.2.1 _ (by decide) (by decide) (by decide)) (tbX_o.2.1 _ (by decide) (by decide) (by decide)) h
theorem tb_fin {X X8 Y Y9 : Nat → Int → Int} {i : Nat} {k low high but : Int} (h : oRd X i) (h2 : tkC (tbX X i k low high but) X8 Y Y9 i ∧ X8 i 11 = tkN (tbX X i k low high but (i + 1)) (tbX X i k low high but i 12).toNat (tbX X i k low high but i 11).toNat ∧ X8 i 13 = tkB (tbX X i k low high but (i + 1)) (tbX X i k low high but i 12).toNat (tbX X i k low high but i 11).toNat ∧ X8 i 14 = tkS (tbX X i k low high but (i + 1)) (tbX X i k low high but i 12).toNat (tbX X i k low high but i 11).toNat ∧ (X8 i 14 = 3 → X8 i 15 = tkV (tbX X i k low high but (i + 1)) (tbX X i k low high but i 12).toNat (tbX X i k low high but i 11).toNat) ∧ (X8 i 14 = 2 → Y9 i 16 = tkW (tbX X i k low high but (i + 1)) (tbX X i k low high but i 12).toNat (tbX X i k low high but i 11).toNat)) :
    tkC (tbX X i k low high but) X8 Y Y9 i ∧ tkAt X8 Y9 i (X i 11).toNat ∧ oRd X8 i := by
  obtain ⟨c, h3⟩ := h2
  have r8 := oRd_t (oRd_b h) c h3.1
  have e1 : tbX X i k low high but (i + 1) = X (i + 1) := tbX_o.1 _ (by omega) (by omega)
  have e2 : tbX X i k low high but i 12 = X i 12 := tbX_o.2.1 _ (by decide) (by decide) (by decide)
  have e3 : tbX X i k low high but i 11 = X i 11 := tbX_o.2.1 _ (by decide) (by decide) (by decide)
  have f1 : X8 (i + 1) = X (i + 1) := (c.1 _ (by omega)).trans e1
  have f2 : X8 i 12 = X i 12 := (c.2.1 12 (by decide) (by decide) (by decide) (by decide)).trans e2
  rw [e1, e2, e3] at h3
  refine ⟨c, ?_, r8⟩
  unfold tkAt
  rw [f1, f2]
  exact h3
abbrev cX11_fails : ByteArray := prog_13_method_16_code
def yX11_fails : MethodName := ⟨RX11, "fails", "()Z"⟩
theorem dX11_fails_0 : decode cX11_fails 0 = .ok (.aload_n 0, 1) := by decide +kernel
theorem dX11_fails_1 : decode cX11_fails 1 = .ok (.aload_n 0, 1) := by decide +kernel
theorem dX11_fails_2 : decode cX11_fails 2 = .ok (.getfield 118, 3) := by decide +kernel
theorem dX11_fails_5 : decode cX11_fails 5 = .ok (.putfield 131, 3) := by decide +kernel
theorem dX11_fails_8 : decode cX11_fails 8 = .ok (.iconst 0, 1) := by decide +kernel
theorem dX11_fails_9 : decode cX11_fails 9 = .ok (.ireturn, 1) := by decide +kernel
theorem q_1304 : Cond.fieldLink RX11 131 RX11 "wrongAt" "I" ∈ zTB := zmem 1304 (by decide +kernel) rfl
def F_X11_fails (i : Nat) (X Y : Nat → Int → Int) (R : Nat → Int → Option Nat)  : Prop := (∀ i j, rI (X i j)) → (∀ i j, rL (Y i j)) → ∀ X1 : Nat → Int → Int, X1 = zU X (i) 17 (X (i) 13) → (∀ i j, rI (X1 i j)) → (false = false ∧ (X1) = zU X i 17 (X i 13))
set_option maxHeartbeats 4000000 in
set_option maxRecDepth 100000 in
theorem w_X11_fails {l : Launch} {D : va_G} {cy : Nat → ClassId} {bs N : Nat} {sa : Nat → Nat} {kd len : Nat → Nat} {X Y : Nat → Int → Int} {R : Nat → Int → Option Nat} {i : Nat} (hM : zM N kd len R i)  (hF : F_X11_fails i X Y R ) : Met l yX11_fails (.code yX11_fails cX11_fails 1 (some .boolean) :: zTB) (zRm 0 0) (zPc D cy bs sa N kd len X Y R [.ref (bs + (i))]) (zQi D cy bs N kd len (fun r st => st.2.1 = Y ∧ st.2.2 = R ∧ ∃ rb : Bool, r = bz rb ∧ (rb = false ∧ (st.1) = zU X i 17 (X i 13)))) 0 0 (zA bs) := by
  refine zstart (by decide) (Nat.le_of_ble_eq_true rfl) ?_
  intro p e s m args below meth c ls C hE hH hr hlk hnm hl hargs
  have hF := hF hH.2.2.1 hH.2.2.2
  have hS : va_S (zA bs) s.heap s.heap [] := va_S.rf
  have hl : lv_has ls 1 [(0, .ref (bs + (i)))] := hl
  refine lv_aload_n C.1 C.2.1 dX11_fails_0 rfl (lv_at hl 0 rfl) ?_
  refine lv_aload_n C.1 C.2.1 dX11_fails_1 rfl (lv_at hl 0 rfl) ?_
  refine zg11_13 C hH (zM_n0 hM) (zM_k0 hM) q_1300 dX11_fails_2 ?_
  refine zp11_17 C hH hS (zM_n0 hM) (zM_k0 hM) q_1304 (hH.2.2.1 _ _) dX11_fails_5 (fun H locs hH hS => ?_)
  obtain ⟨X1, eX1⟩ : ∃ z, z = zU X (i) 17 (X (i) 13) := ⟨_, rfl⟩
  rw [← eX1] at hH
  have hF := hF X1 eX1 hH.2.2.1
  refine zd_iconst C dX11_fails_8 ?_
  exact zd_zret C hr hlk hH hS (by decide) (⟨rfl, rfl, _, rfl, hF⟩) dX11_fails_9
theorem v_X11_fails {X Y : Nat → Int → Int} {R : Nat → Int → Option Nat} {i : Nat}  : F_X11_fails i X Y R  := by
  unfold F_X11_fails
  intro hX hY
  intro X1
  intro eX1
  intro rX1
  exact ⟨rfl, eX1⟩
theorem c_X11_fails {l : Launch} {D : va_G} {cy : Nat → ClassId} {bs N : Nat} {sa : Nat → Nat} {kd len : Nat → Nat} {X Y : Nat → Int → Int} {R : Nat → Int → Option Nat} {i : Nat} (hM : zM N kd len R i)  : Met l yX11_fails (.code yX11_fails cX11_fails 1 (some .boolean) :: zTB) (zRm 0 0) (zPc D cy bs sa N kd len X Y R [.ref (bs + (i))]) (zQi D cy bs N kd len (fun r st => st.2.1 = Y ∧ st.2.2 = R ∧ ∃ rb : Bool, r = bz rb ∧ (rb = false ∧ (st.1) = zU X i 17 (X i 13)))) 0 0 (zA bs) := w_X11_fails hM  (v_X11_fails )
abbrev cX11_addsFault : ByteArray := prog_13_method_17_code
def yX11_addsFault : MethodName := ⟨RX11, "addsFault", "(II)V"⟩
theorem dX11_addsFault_0 : decode cX11_addsFault 0 = .ok (.aload_n 0, 1) := by decide +kernel
theorem dX11_addsFault_1 : decode cX11_addsFault 1 = .ok (.getfield 134, 3) := by decide +kernel
theorem dX11_addsFault_4 : decode cX11_addsFault 4 = .ok (.ifCond .eq 27, 3) := by decide +kernel
theorem dX11_addsFault_7 : decode cX11_addsFault 7 = .ok (.iload_n 2, 1) := by decide +kernel
theorem dX11_addsFault_8 : decode cX11_addsFault 8 = .ok (.aload_n 0, 1) := by decide +kernel
theorem dX11_addsFault_9 : decode cX11_addsFault 9 = .ok (.getfield 137, 3) := by decide +kernel
theorem dX11_addsFault_12 : decode cX11_addsFault 12 = .ok (.if_icmp .lt 19, 3) := by decide +kernel
theorem dX11_addsFault_15 : decode cX11_addsFault 15 = .ok (.iload_n 2, 1) := by decide +kernel
theorem dX11_addsFault_16 : decode cX11_addsFault 16 = .ok (.aload_n 0, 1) := by decide +kernel
theorem dX11_addsFault_17 : decode cX11_addsFault 17 = .ok (.getfield 137, 3) := by decide +kernel
theorem dX11_addsFault_20 : decode cX11_addsFault 20 = .ok (.if_icmp .ne 21, 3) := by decide +kernel
theorem dX11_addsFault_23 : decode cX11_addsFault 23 = .ok (.iload_n 1, 1) := by decide +kernel
theorem dX11_addsFault_24 : decode cX11_addsFault 24 = .ok (.aload_n 0, 1) := by decide +kernel
theorem dX11_addsFault_25 : decode cX11_addsFault 25 = .ok (.getfield 134, 3) := by decide +kernel
theorem dX11_addsFault_28 : decode cX11_addsFault 28 = .ok (.if_icmp .ge 13, 3) := by decide +kernel
theorem dX11_addsFault_31 : decode cX11_addsFault 31 = .ok (.aload_n 0, 1) := by decide +kernel
theorem dX11_addsFault_32 : decode cX11_addsFault 32 = .ok (.iload_n 1, 1) := by decide +kernel
theorem dX11_addsFault_33 : decode cX11_addsFault 33 = .ok (.putfield 134, 3) := by decide +kernel
theorem dX11_addsFault_36 : decode cX11_addsFault 36 = .ok (.aload_n 0, 1) := by decide +kernel
theorem dX11_addsFault_37 : decode cX11_addsFault 37 = .ok (.iload_n 2, 1) := by decide +kernel
theorem dX11_addsFault_38 : decode cX11_addsFault 38 = .ok (.putfield 137, 3) := by decide +kernel
theorem dX11_addsFault_41 : decode cX11_addsFault 41 = .ok (.return_, 1) := by decide +kernel
theorem q_1305 : Cond.fieldLink RX11 134 RX11 "laterFault" "I" ∈ zTB := zmem 1305 (by decide +kernel) rfl
theorem q_1306 : Cond.fieldLink RX11 137 RX11 "laterPlace" "I" ∈ zTB := zmem 1306 (by decide +kernel) rfl
def F_X11_addsFault (i : Nat) (X Y : Nat → Int → Int) (R : Nat → Int → Option Nat) (a : Int) (b : Int) : Prop := (∀ i j, rI (X i j)) → (∀ i j, rL (Y i j)) → (((X (i) 18) = 0) → (∀ X2 : Nat → Int → Int, X2 = zU X (i) 18 (a) → (∀ i j, rI (X2 i j)) → (∀ X3 : Nat → Int → Int, X3 = zU X2 (i) 19 (b) → (∀ i j, rI (X3 i j)) → ((X3) = adF X i (a) (b))))) ∧ ((¬ ((X (i) 18) = 0)) → (((b < (X (i) 19)) → (∀ X5 : Nat → Int → Int, X5 = zU X (i) 18 (a) → (∀ i j, rI (X5 i j)) → (∀ X6 : Nat → Int → Int, X6 = zU X5 (i) 19 (b) → (∀ i j, rI (X6 i j)) → ((X6) = adF X i (a) (b))))) ∧ ((¬ (b < (X (i) 19))) → (((¬ b = (X (i) 19)) → ((X) = adF X i (a) (b))) ∧ ((¬ (¬ b = (X (i) 19))) → ((((X (i) 18) ≤ a) → ((X) = adF X i (a) (b))) ∧ ((¬ ((X (i) 18) ≤ a)) → (∀ X9 : Nat → Int → Int, X9 = zU X (i) 18 (a) → (∀ i j, rI (X9 i j)) → (∀ X10 : Nat → Int → Int, X10 = zU X9 (i) 19 (b) → (∀ i j, rI (X10 i j)) → ((X10) = adF X i (a) (b)))))))))))
set_option maxHeartbeats 4000000 in
set_option maxRecDepth 100000 in
theorem w_X11_addsFault {l : Launch} {D : va_G} {cy : Nat → ClassId} {bs N : Nat} {sa : Nat → Nat} {kd len : Nat → Nat} {X Y : Nat → Int → Int} {R : Nat → Int → Option Nat} {i : Nat} (hM : zM N kd len R i) (a : Int) (ha : rI a) (b : Int) (hb : rI b) (hF : F_X11_addsFault i X Y R a b) : Met l yX11_addsFault (.code yX11_addsFault cX11_addsFault 3 none :: zTB) (zRm 0 0) (zPc D cy bs sa N kd len X Y R [.ref (bs + (i)), .int (zI (a)), .int (zI (b))]) (zQv D cy bs N kd len (fun st => st.2.1 = Y ∧ st.2.2 = R ∧ ((st.1) = adF X i (a) (b)))) 0 0 (zA bs) := by
  refine zstart (by decide) (Nat.le_of_ble_eq_true rfl) ?_
  intro p e s m args below meth c ls C hE hH hr hlk hnm hl hargs
  have hF := hF hH.2.2.1 hH.2.2.2
  have hS : va_S (zA bs) s.heap s.heap [] := va_S.rf
  have hl : lv_has ls 3 [(0, .ref (bs + (i))), (1, .int (zI (a))), (2, .int (zI (b)))] := hl
  refine lv_aload_n C.1 C.2.1 dX11_addsFault_0 rfl (lv_at hl 0 rfl) ?_
  refine zg11_18 C hH (zM_n0 hM) (zM_k0 hM) q_1305 dX11_addsFault_1 ?_
  refine zd_if_eq C (hH.2.2.1 _ _) 31 dX11_addsFault_4 (by decide) (fun c1 => ?_) (fun c1 => ?_)
  · have hF := hF.1 c1
    refine lv_aload_n C.1 C.2.1 dX11_addsFault_31 rfl (lv_at hl 0 rfl) ?_
    refine lv_iload_n C.1 C.2.1 dX11_addsFault_32 rfl (lv_at hl 1 rfl) ?_
    refine zp11_18 C hH hS (zM_n0 hM) (zM_k0 hM) q_1305 ha dX11_addsFault_33 (fun H locs hH hS => ?_)
    obtain ⟨X2, eX2⟩ : ∃ z, z = zU X (i) 18 (a) := ⟨_, rfl⟩
    rw [← eX2] at hH
    have hF := hF X2 eX2 hH.2.2.1
    refine lv_aload_n C.1 C.2.1 dX11_addsFault_36 rfl (lv_at hl 0 rfl) ?_
    refine lv_iload_n C.1 C.2.1 dX11_addsFault_37 rfl (lv_at hl 2 rfl) ?_
    refine zp11_19 C hH hS (zM_n0 hM) (zM_k0 hM) q_1306 hb dX11_addsFault_38 (fun H locs hH hS => ?_)
    obtain ⟨X3, eX3⟩ : ∃ z, z = zU X2 (i) 19 (b) := ⟨_, rfl⟩
    rw [← eX3] at hH
    have hF := hF X3 eX3 hH.2.2.1
    exact zd_vret C hr hlk hH hS (⟨rfl, rfl, hF⟩) dX11_addsFault_41
  · have hF := hF.2 c1
    refine lv_iload_n C.1 C.2.1 dX11_addsFault_7 rfl (lv_at hl 2 rfl) ?_
    refine lv_aload_n C.1 C.2.1 dX11_addsFault_8 rfl (lv_at hl 0 rfl) ?_
    refine zg11_19 C hH (zM_n0 hM) (zM_k0 hM) q_1306 dX11_addsFault_9 ?_
    refine zd_icmp_lt C hb (hH.2.2.1 _ _) 31 dX11_addsFault_12 (by decide) (fun c4 => ?_) (fun c4 => ?_)
    · have hF := hF.1 c4
      refine lv_aload_n C.1 C.2.1 dX11_addsFault_31 rfl (lv_at hl 0 rfl) ?_
      refine lv_iload_n C.1 C.2.1 dX11_addsFault_32 rfl (lv_at hl 1 rfl) ?_
      refine zp11_18 C hH hS (zM_n0 hM) (zM_k0 hM) q_1305 ha dX11_addsFault_33 (fun H locs hH hS => ?_)
      obtain ⟨X5, eX5⟩ : ∃ z, z = zU X (i) 18 (a) := ⟨_, rfl⟩
      rw [← eX5] at hH
      have hF := hF X5 eX5 hH.2.2.1
      refine lv_aload_n C.1 C.2.1 dX11_addsFault_36 rfl (lv_at hl 0 rfl) ?_
      refine lv_iload_n C.1 C.2.1 dX11_addsFault_37 rfl (lv_at hl 2 rfl) ?_
      refine zp11_19 C hH hS (zM_n0 hM) (zM_k0 hM) q_1306 hb dX11_addsFault_38 (fun H locs hH hS => ?_)
      obtain ⟨X6, eX6⟩ : ∃ z, z = zU X5 (i) 19 (b) := ⟨_, rfl⟩
      rw [← eX6] at hH
      have hF := hF X6 eX6 hH.2.2.1
      exact zd_vret C hr hlk hH hS (⟨rfl, rfl, hF⟩) dX11_addsFault_41
    · have hF := hF.2 c4
      refine lv_iload_n C.1 C.2.1 dX11_addsFault_15 rfl (lv_at hl 2 rfl) ?_
      refine lv_aload_n C.1 C.2.1 dX11_addsFault_16 rfl (lv_at hl 0 rfl) ?_
      refine zg11_19 C hH (zM_n0 hM) (zM_k0 hM) q_1306 dX11_addsFault_17 ?_
      refine zd_icmp_ne C hb (hH.2.2.1 _ _) 41 dX11_addsFault_20 (by decide) (fun c7 => ?_) (fun c7 => ?_)
      · have hF := hF.1 c7
        exact zd_vret C hr hlk hH hS (⟨rfl, rfl, hF⟩) dX11_addsFault_41
      · have hF := hF.2 c7
        refine lv_iload_n C.1 C.2.1 dX11_addsFault_23 rfl (lv_at hl 1 rfl) ?_
        refine lv_aload_n C.1 C.2.1 dX11_addsFault_24 rfl (lv_at hl 0 rfl) ?_
        refine zg11_18 C hH (zM_n0 hM) (zM_k0 hM) q_1305 dX11_addsFault_25 ?_
        refine zd_icmp_ge C ha (hH.2.2.1 _ _) 41 dX11_addsFault_28 (by decide) (fun c8 => ?_) (fun c8 => ?_)
        · have hF := hF.1 c8
          exact zd_vret C hr hlk hH hS (⟨rfl, rfl, hF⟩) dX11_addsFault_41
        · have hF := hF.2 c8
          refine lv_aload_n C.1 C.2.1 dX11_addsFault_31 rfl (lv_at hl 0 rfl) ?_
          refine lv_iload_n C.1 C.2.1 dX11_addsFault_32 rfl (lv_at hl 1 rfl) ?_
          refine zp11_18 C hH hS (zM_n0 hM) (zM_k0 hM) q_1305 ha dX11_addsFault_33 (fun H locs hH hS => ?_)
          obtain ⟨X9, eX9⟩ : ∃ z, z = zU X (i) 18 (a) := ⟨_, rfl⟩
          rw [← eX9] at hH
          have hF := hF X9 eX9 hH.2.2.1
          refine lv_aload_n C.1 C.2.1 dX11_addsFault_36 rfl (lv_at hl 0 rfl) ?_
          refine lv_iload_n C.1 C.2.1 dX11_addsFault_37 rfl (lv_at hl 2 rfl) ?_
          refine zp11_19 C hH hS (zM_n0 hM) (zM_k0 hM) q_1306 hb dX11_addsFault_38 (fun H locs hH hS => ?_)
          obtain ⟨X10, eX10⟩ : ∃ z, z = zU X9 (i) 19 (b) := ⟨_, rfl⟩
          rw [← eX10] at hH
          have hF := hF X10 eX10 hH.2.2.1
          exact zd_vret C hr hlk hH hS (⟨rfl, rfl, hF⟩) dX11_addsFault_41
theorem v_X11_addsFault {X Y : Nat → Int → Int} {R : Nat → Int → Option Nat} {i : Nat} (a : Int) (ha : rI a) (b : Int) (hb : rI b) : F_X11_addsFault i X Y R a b := by
  unfold F_X11_addsFault
  intro hX hY
  unfold adF
  refine ⟨?_, ?_⟩
  · intro c1
    intro X2
    intro eX2
    intro rX2
    intro X3
    intro eX3
    intro rX3
    rw [if_pos (Or.inl c1), eX3, eX2]
  intro c2
  refine ⟨?_, ?_⟩
  · intro c3
    intro X5
    intro eX5
    intro rX5
    intro X6
    intro eX6
    intro rX6
    rw [if_pos (Or.inr (Or.inl c3)), eX6, eX5]
  intro c4
  refine ⟨?_, ?_⟩
  · intro c5
    rw [if_neg (by omega)]
  intro c6
  refine ⟨?_, ?_⟩
  · intro c7
    rw [if_neg (by omega)]
  intro c8
  intro X9
  intro eX9
  intro rX9
  intro X10
  intro eX10
  intro rX10
  rw [if_pos (by omega), eX10, eX9]
theorem c_X11_addsFault {l : Launch} {D : va_G} {cy : Nat → ClassId} {bs N : Nat} {sa : Nat → Nat} {kd len : Nat → Nat} {X Y : Nat → Int → Int} {R : Nat → Int → Option Nat} {i : Nat} (hM : zM N kd len R i) (a : Int) (ha : rI a) (b : Int) (hb : rI b) : Met l yX11_addsFault (.code yX11_addsFault cX11_addsFault 3 none :: zTB) (zRm 0 0) (zPc D cy bs sa N kd len X Y R [.ref (bs + (i)), .int (zI (a)), .int (zI (b))]) (zQv D cy bs N kd len (fun st => st.2.1 = Y ∧ st.2.2 = R ∧ ((st.1) = adF X i (a) (b)))) 0 0 (zA bs) := w_X11_addsFault hM a ha b hb (v_X11_addsFault a ha b hb)
abbrev cX11_takeBut : ByteArray := prog_13_method_18_code
def yX11_takeBut : MethodName := ⟨RX11, "takeBut", "(IIII)Z"⟩
theorem dX11_takeBut_0 : decode cX11_takeBut 0 = .ok (.aload_n 0, 1) := by decide +kernel
theorem dX11_takeBut_1 : decode cX11_takeBut 1 = .ok (.getfield 125, 3) := by decide +kernel
theorem dX11_takeBut_4 : decode cX11_takeBut 4 = .ok (.iconst 3, 1) := by decide +kernel
theorem dX11_takeBut_5 : decode cX11_takeBut 5 = .ok (.if_icmp .eq 8, 3) := by decide +kernel
theorem dX11_takeBut_8 : decode cX11_takeBut 8 = .ok (.aload_n 0, 1) := by decide +kernel
theorem dX11_takeBut_9 : decode cX11_takeBut 9 = .ok (.invokevirtual 140, 3) := by decide +kernel
theorem dX11_takeBut_12 : decode cX11_takeBut 12 = .ok (.ireturn, 1) := by decide +kernel
theorem dX11_takeBut_13 : decode cX11_takeBut 13 = .ok (.aload_n 0, 1) := by decide +kernel
theorem dX11_takeBut_14 : decode cX11_takeBut 14 = .ok (.getfield 44, 3) := by decide +kernel
theorem dX11_takeBut_17 : decode cX11_takeBut 17 = .ok (.iload_n 1, 1) := by decide +kernel
theorem dX11_takeBut_18 : decode cX11_takeBut 18 = .ok (.aload_n 0, 1) := by decide +kernel
theorem dX11_takeBut_19 : decode cX11_takeBut 19 = .ok (.getfield 128, 3) := by decide +kernel
theorem dX11_takeBut_22 : decode cX11_takeBut 22 = .ok (.iastore, 1) := by decide +kernel
theorem dX11_takeBut_23 : decode cX11_takeBut 23 = .ok (.aload_n 0, 1) := by decide +kernel
theorem dX11_takeBut_24 : decode cX11_takeBut 24 = .ok (.getfield 128, 3) := by decide +kernel
theorem dX11_takeBut_27 : decode cX11_takeBut 27 = .ok (.iload_n 2, 1) := by decide +kernel
theorem dX11_takeBut_28 : decode cX11_takeBut 28 = .ok (.iload_n 3, 1) := by decide +kernel
theorem dX11_takeBut_29 : decode cX11_takeBut 29 = .ok (.invokestatic 100, 3) := by decide +kernel
theorem dX11_takeBut_32 : decode cX11_takeBut 32 = .ok (.ifCond .eq 12, 3) := by decide +kernel
theorem dX11_takeBut_35 : decode cX11_takeBut 35 = .ok (.aload_n 0, 1) := by decide +kernel
theorem dX11_takeBut_36 : decode cX11_takeBut 36 = .ok (.getfield 128, 3) := by decide +kernel
theorem dX11_takeBut_39 : decode cX11_takeBut 39 = .ok (.iload 4, 2) := by decide +kernel
theorem dX11_takeBut_41 : decode cX11_takeBut 41 = .ok (.if_icmp .ne 17, 3) := by decide +kernel
theorem dX11_takeBut_44 : decode cX11_takeBut 44 = .ok (.aload_n 0, 1) := by decide +kernel
theorem dX11_takeBut_45 : decode cX11_takeBut 45 = .ok (.iconst 2, 1) := by decide +kernel
theorem dX11_takeBut_46 : decode cX11_takeBut 46 = .ok (.aload_n 0, 1) := by decide +kernel
theorem dX11_takeBut_47 : decode cX11_takeBut 47 = .ok (.getfield 118, 3) := by decide +kernel
theorem dX11_takeBut_50 : decode cX11_takeBut 50 = .ok (.invokevirtual 144, 3) := by decide +kernel
theorem dX11_takeBut_53 : decode cX11_takeBut 53 = .ok (.aload_n 0, 1) := by decide +kernel
theorem dX11_takeBut_54 : decode cX11_takeBut 54 = .ok (.iconst 0, 1) := by decide +kernel
theorem dX11_takeBut_55 : decode cX11_takeBut 55 = .ok (.putfield 148, 3) := by decide +kernel
theorem dX11_takeBut_58 : decode cX11_takeBut 58 = .ok (.aload_n 0, 1) := by decide +kernel
theorem dX11_takeBut_59 : decode cX11_takeBut 59 = .ok (.invokevirtual 152, 3) := by decide +kernel
theorem dX11_takeBut_62 : decode cX11_takeBut 62 = .ok (.iconst 1, 1) := by decide +kernel
theorem dX11_takeBut_63 : decode cX11_takeBut 63 = .ok (.ireturn, 1) := by decide +kernel
theorem q_1308 : Cond.fieldLink RX11 44 RX11 "read" "[I" ∈ zTB := zmem 1308 (by decide +kernel) rfl
theorem q_1548 : Cond.methodLink RX11 144 yX11_addsFault ∈ zTB := zmem 1548 (by decide +kernel) rfl
theorem q_1550 : Cond.instanceMethod yX11_addsFault ∈ zTB := zmem 1550 (by decide +kernel) rfl
theorem q_43 : Cond.selects RX11 yX11_addsFault yX11_addsFault ∈ zTB := zmem 43 (by decide +kernel) rfl
theorem q_1551 : Cond.code yX11_addsFault cX11_addsFault 3 none ∈ zTB := zmem 1551 (by decide +kernel) rfl
theorem k_RX11_144 : zLv RX11 144 RX11 yX11_addsFault cX11_addsFault 3 none 2 := ⟨⟨q_1548, q_1550, q_43, q_140, q_1551⟩, rfl, ⟨by decide, by decide⟩, by decide +kernel⟩
theorem q_1309 : Cond.fieldLink RX11 148 RX11 "good" "Z" ∈ zTB := zmem 1309 (by decide +kernel) rfl
theorem q_1513 : Cond.methodLink RX11 152 yX11_token ∈ zTB := zmem 1513 (by decide +kernel) rfl
theorem q_1515 : Cond.instanceMethod yX11_token ∈ zTB := zmem 1515 (by decide +kernel) rfl
theorem q_36 : Cond.selects RX11 yX11_token yX11_token ∈ zTB := zmem 36 (by decide +kernel) rfl
theorem q_1516 : Cond.code yX11_token cX11_token 3 none ∈ zTB := zmem 1516 (by decide +kernel) rfl
theorem k_RX11_152 : zLv RX11 152 RX11 yX11_token cX11_token 3 none 0 := ⟨⟨q_1513, q_1515, q_36, q_140, q_1516⟩, rfl, ⟨by decide, by decide⟩, by decide +kernel⟩
theorem q_1560 : Cond.methodLink RX11 140 yX11_fails ∈ zTB := zmem 1560 (by decide +kernel) rfl
theorem q_1562 : Cond.instanceMethod yX11_fails ∈ zTB := zmem 1562 (by decide +kernel) rfl
theorem q_46 : Cond.selects RX11 yX11_fails yX11_fails ∈ zTB := zmem 46 (by decide +kernel) rfl
theorem q_1563 : Cond.code yX11_fails cX11_fails 1 (some .boolean) ∈ zTB := zmem 1563 (by decide +kernel) rfl
theorem k_RX11_140 : zLv RX11 140 RX11 yX11_fails cX11_fails 1 (some .boolean) 0 := ⟨⟨q_1560, q_1562, q_46, q_140, q_1563⟩, rfl, ⟨by decide, by decide⟩, by decide +kernel⟩
def F_X11_takeBut (i : Nat) (X Y : Nat → Int → Int) (R : Nat → Int → Option Nat) (a : Int) (b : Int) (g : Int) (d : Int) : Prop := (∀ i j, rI (X i j)) → (∀ i j, rL (Y i j)) → (((X (i) 14) = 3) → ((0 ≤ a ∧ a < 4) ∧ (∀ X3 : Nat → Int → Int, X3 = zU X (i + 12) (a) (X (i) 15) → (∀ i j, rI (X3 i j)) → ((((mIn (X3 (i) 15) (b) (g)) = false) → (∀ X5 : Nat → Int → Int, (∀ i j, rI (X5 i j)) → ((X5) = adF X3 i ((2 : Int)) (X3 (i) 13)) → (∀ X6 : Nat → Int → Int, X6 = zU X5 (i) 22 (0) → (∀ i j, rI (X6 i j)) → ((oRd X6 i) ∧ (∀ X8 : Nat → Int → Int, (∀ i j, rI (X8 i j)) → ∀ Y9 : Nat → Int → Int, (∀ i j, rL (Y9 i j)) → (tkC X6 (X8) Y (Y9) i ∧ (X8) i 11 = tkN (X6 (i + 1)) (X6 i 12).toNat (X6 i 11).toNat ∧ (X8) i 13 = tkB (X6 (i + 1)) (X6 i 12).toNat (X6 i 11).toNat ∧ (X8) i 14 = tkS (X6 (i + 1)) (X6 i 12).toNat (X6 i 11).toNat ∧ ((X8) i 14 = 3 → (X8) i 15 = tkV (X6 (i + 1)) (X6 i 12).toNat (X6 i 11).toNat) ∧ ((X8) i 14 = 2 → (Y9) i 16 = tkW (X6 (i + 1)) (X6 i 12).toNat (X6 i 11).toNat)) → (true = decide (X i 14 = 3) ∧ (true = false → (X8) = zU X i 17 (X i 13) ∧ (Y9) = Y) ∧ (true = true → tkC (tbX X i (a) (b) (g) (d)) (X8) Y (Y9) i ∧ tkAt (X8) (Y9) i (X i 11).toNat ∧ oRd (X8) i))))))) ∧ (((mIn (X3 (i) 15) (b) (g)) = true) → (((¬ (X3 (i) 15) = d) → ((oRd X3 i) ∧ (∀ X12 : Nat → Int → Int, (∀ i j, rI (X12 i j)) → ∀ Y13 : Nat → Int → Int, (∀ i j, rL (Y13 i j)) → (tkC X3 (X12) Y (Y13) i ∧ (X12) i 11 = tkN (X3 (i + 1)) (X3 i 12).toNat (X3 i 11).toNat ∧ (X12) i 13 = tkB (X3 (i + 1)) (X3 i 12).toNat (X3 i 11).toNat ∧ (X12) i 14 = tkS (X3 (i + 1)) (X3 i 12).toNat (X3 i 11).toNat ∧ ((X12) i 14 = 3 → (X12) i 15 = tkV (X3 (i + 1)) (X3 i 12).toNat (X3 i 11).toNat) ∧ ((X12) i 14 = 2 → (Y13) i 16 = tkW (X3 (i + 1)) (X3 i 12).toNat (X3 i 11).toNat)) → (true = decide (X i 14 = 3) ∧ (true = false → (X12) = zU X i 17 (X i 13) ∧ (Y13) = Y) ∧ (true = true → tkC (tbX X i (a) (b) (g) (d)) (X12) Y (Y13) i ∧ tkAt (X12) (Y13) i (X i 11).toNat ∧ oRd (X12) i))))) ∧ ((¬ (¬ (X3 (i) 15) = d)) → (∀ X14 : Nat → Int → Int, (∀ i j, rI (X14 i j)) → ((X14) = adF X3 i ((2 : Int)) (X3 (i) 13)) → (∀ X15 : Nat → Int → Int, X15 = zU X14 (i) 22 (0) → (∀ i j, rI (X15 i j)) → ((oRd X15 i) ∧ (∀ X17 : Nat → Int → Int, (∀ i j, rI (X17 i j)) → ∀ Y18 : Nat → Int → Int, (∀ i j, rL (Y18 i j)) → (tkC X15 (X17) Y (Y18) i ∧ (X17) i 11 = tkN (X15 (i + 1)) (X15 i 12).toNat (X15 i 11).toNat ∧ (X17) i 13 = tkB (X15 (i + 1)) (X15 i 12).toNat (X15 i 11).toNat ∧ (X17) i 14 = tkS (X15 (i + 1)) (X15 i 12).toNat (X15 i 11).toNat ∧ ((X17) i 14 = 3 → (X17) i 15 = tkV (X15 (i + 1)) (X15 i 12).toNat (X15 i 11).toNat) ∧ ((X17) i 14 = 2 → (Y18) i 16 = tkW (X15 (i + 1)) (X15 i 12).toNat (X15 i 11).toNat)) → (true = decide (X i 14 = 3) ∧ (true = false → (X17) = zU X i 17 (X i 13) ∧ (Y18) = Y) ∧ (true = true → tkC (tbX X i (a) (b) (g) (d)) (X17) Y (Y18) i ∧ tkAt (X17) (Y18) i (X i 11).toNat ∧ oRd (X17) i))))))))))))) ∧ ((¬ ((X (i) 14) = 3)) → (∀ r20 : Bool, ∀ X19 : Nat → Int → Int, (∀ i j, rI (X19 i j)) → (r20 = false ∧ (X19) = zU X i 17 (X i 13)) → (r20 = decide (X i 14 = 3) ∧ (r20 = false → (X19) = zU X i 17 (X i 13) ∧ (Y) = Y) ∧ (r20 = true → tkC (tbX X i (a) (b) (g) (d)) (X19) Y (Y) i ∧ tkAt (X19) (Y) i (X i 11).toNat ∧ oRd (X19) i))))
set_option maxHeartbeats 4000000 in
set_option maxRecDepth 100000 in
theorem w_X11_takeBut {l : Launch} {D : va_G} {cy : Nat → ClassId} {bs N : Nat} {sa : Nat → Nat} {kd len : Nat → Nat} {X Y : Nat → Int → Int} {R : Nat → Int → Option Nat} {i : Nat} (hM : zM N kd len R i) (a : Int) (ha : rI a) (b : Int) (hb : rI b) (g : Int) (hg : rI g) (d : Int) (hd : rI d) (hF : F_X11_takeBut i X Y R a b g d) : Met l yX11_takeBut (.code yX11_takeBut cX11_takeBut 5 (some .boolean) :: zTB) (zRm 2 44) (zPc D cy bs sa N kd len X Y R [.ref (bs + (i)), .int (zI (a)), .int (zI (b)), .int (zI (g)), .int (zI (d))]) (zQi D cy bs N kd len (fun r st => st.2.2 = R ∧ ∃ rb : Bool, r = bz rb ∧ (rb = decide (X i 14 = 3) ∧ (rb = false → (st.1) = zU X i 17 (X i 13) ∧ (st.2.1) = Y) ∧ (rb = true → tkC (tbX X i (a) (b) (g) (d)) (st.1) Y (st.2.1) i ∧ tkAt (st.1) (st.2.1) i (X i 11).toNat ∧ oRd (st.1) i)))) 0 0 (zA bs) := by
  refine zstart (by decide) (Nat.le_of_ble_eq_true rfl) ?_
  intro p e s m args below meth c ls C hE hH hr hlk hnm hl hargs
  have hF := hF hH.2.2.1 hH.2.2.2
  have hS : va_S (zA bs) s.heap s.heap [] := va_S.rf
  have hl : lv_has ls 5 [(0, .ref (bs + (i))), (1, .int (zI (a))), (2, .int (zI (b))), (3, .int (zI (g))), (4, .int (zI (d)))] := hl
  refine lv_aload_n C.1 C.2.1 dX11_takeBut_0 rfl (lv_at hl 0 rfl) ?_
  refine zg11_14 C hH (zM_n0 hM) (zM_k0 hM) q_1301 dX11_takeBut_1 ?_
  refine zd_iconst C dX11_takeBut_4 ?_
  refine zd_icmp_eq C (hH.2.2.1 _ _) (by decide) 13 dX11_takeBut_5 (by decide) (fun c1 => ?_) (fun c1 => ?_)
  · have hF := hF.1 c1
    refine lv_aload_n C.1 C.2.1 dX11_takeBut_13 rfl (lv_at hl 0 rfl) ?_
    refine zg11_21 C hH (zM_n0 hM) (zM_k0 hM) q_1308 (zM_r12 hM) dX11_takeBut_14 ?_
    refine lv_iload_n C.1 C.2.1 dX11_takeBut_17 rfl (lv_at hl 1 rfl) ?_
    refine lv_aload_n C.1 C.2.1 dX11_takeBut_18 rfl (lv_at hl 0 rfl) ?_
    refine zg11_15 C hH (zM_n0 hM) (zM_k0 hM) q_1302 dX11_takeBut_19 ?_
    obtain ⟨o2, hF⟩ := hF
    refine zd_iast C hH hS (zM_n12 hM) (zM_k12 hM) o2.1 (by rw [zM_l12 hM]; exact o2.2) (by rw [zM_l12 hM]; decide) (hH.2.2.1 _ _) dX11_takeBut_22 (fun H locs hH hS => ?_)
    obtain ⟨X3, eX3⟩ : ∃ z, z = zU X (i + 12) (a) (X (i) 15) := ⟨_, rfl⟩
    rw [← eX3] at hH
    have hF := hF X3 eX3 hH.2.2.1
    refine lv_aload_n C.1 C.2.1 dX11_takeBut_23 rfl (lv_at hl 0 rfl) ?_
    refine zg11_15 C hH (zM_n0 hM) (zM_k0 hM) q_1302 dX11_takeBut_24 ?_
    refine lv_iload_n C.1 C.2.1 dX11_takeBut_27 rfl (lv_at hl 2 rfl) ?_
    refine lv_iload_n C.1 C.2.1 dX11_takeBut_28 rfl (lv_at hl 3 rfl) ?_
    refine zgoi (zrunS (As := [.int (zI (X3 (i) 15)), .int (zI (b)), .int (zI (g))]) (rest := []) C hE hH hS hl.1 (c_X11_in (l := l)  (X3 (i) 15) (hH.2.2.1 _ _) (b) hb (g) hg) k_RX11_100 ⟨Nat.le_of_ble_eq_true rfl, Nat.le_of_ble_eq_true rfl⟩ rfl (Nat.le_of_ble_eq_true rfl) dX11_takeBut_29 ⟨Nat.zero_le _, Nat.zero_le _⟩) hS (fun rq Xq Yq Rq H locs hrq hq hH hS => ?_)
    obtain ⟨h91, h92⟩ := hq
    have h93 : Xq = X3 := congrArg (fun z => z.1) h92
    have h94 : Yq = Y := congrArg (fun z => z.2.1) h92
    have h95 : Rq = R := congrArg (fun z => z.2.2) h92
    rw [h93, h94, h95] at hH
    subst h91
    refine zd_ifB_eq C 44 dX11_takeBut_32 (by decide) (fun c4 => ?_) (fun c4 => ?_)
    · have hF := hF.1 c4
      refine lv_aload_n C.1 C.2.1 dX11_takeBut_44 rfl (lv_at hl 0 rfl) ?_
      refine zd_iconst C dX11_takeBut_45 ?_
      refine lv_aload_n C.1 C.2.1 dX11_takeBut_46 rfl (lv_at hl 0 rfl) ?_
      refine zg11_13 C hH (zM_n0 hM) (zM_k0 hM) q_1300 dX11_takeBut_47 ?_
      refine zgov (zrunV (As := [.int (zI (2)), .int (zI (X3 (i) 13))]) (rest := []) C hE hH hS hl.1 (c_X11_addsFault (l := l) hM (2) (by decide) (X3 (i) 13) (hH.2.2.1 _ _)) k_RX11_144 ⟨Nat.le_of_ble_eq_true rfl, Nat.le_of_ble_eq_true rfl⟩ (zM_n0 hM) (zM_k0 hM) rfl rfl rfl (Nat.le_of_ble_eq_true rfl) dX11_takeBut_50 ⟨Nat.zero_le _, Nat.zero_le _⟩) hS (fun X5 Yq Rq H locs hq hH hS => ?_)
      obtain ⟨h9Y, h9R, hq⟩ := hq
      dsimp only at h9Y h9R
      rw [h9Y, h9R] at hH
      have hF := hF X5 hH.2.2.1 hq
      refine lv_aload_n C.1 C.2.1 dX11_takeBut_53 rfl (lv_at hl 0 rfl) ?_
      refine zd_iconst C dX11_takeBut_54 ?_
      refine zp11_22 C hH hS (zM_n0 hM) (zM_k0 hM) q_1309 (by decide) dX11_takeBut_55 (fun H locs hH hS => ?_)
      obtain ⟨X6, eX6⟩ : ∃ z, z = zU X5 (i) 22 (0) := ⟨_, rfl⟩
      rw [← eX6] at hH
      have hF := hF X6 eX6 hH.2.2.1
      refine lv_aload_n C.1 C.2.1 dX11_takeBut_58 rfl (lv_at hl 0 rfl) ?_
      obtain ⟨o7, hF⟩ := hF
      refine zgov (zrunV (As := []) (rest := []) C hE hH hS hl.1 (c_X11_token (l := l) hM  o7) k_RX11_152 ⟨Nat.le_of_ble_eq_true rfl, Nat.le_of_ble_eq_true rfl⟩ (zM_n0 hM) (zM_k0 hM) rfl rfl rfl (Nat.le_of_ble_eq_true rfl) dX11_takeBut_59 ⟨Nat.zero_le _, Nat.zero_le _⟩) hS (fun X8 Y9 Rq H locs hq hH hS => ?_)
      obtain ⟨h9R, hq⟩ := hq
      dsimp only at h9R
      rw [h9R] at hH
      have hF := hF X8 hH.2.2.1 Y9 hH.2.2.2 hq
      refine zd_iconst C dX11_takeBut_62 ?_
      exact zd_zret C hr hlk hH hS (by decide) (⟨rfl, _, rfl, hF⟩) dX11_takeBut_63
    · have hF := hF.2 c4
      refine lv_aload_n C.1 C.2.1 dX11_takeBut_35 rfl (lv_at hl 0 rfl) ?_
      refine zg11_15 C hH (zM_n0 hM) (zM_k0 hM) q_1302 dX11_takeBut_36 ?_
      refine lv_iload C.1 C.2.1 dX11_takeBut_39 (lv_at hl 4 rfl) ?_
      refine zd_icmp_ne C (hH.2.2.1 _ _) hd 58 dX11_takeBut_41 (by decide) (fun c10 => ?_) (fun c10 => ?_)
      · have hF := hF.1 c10
        refine lv_aload_n C.1 C.2.1 dX11_takeBut_58 rfl (lv_at hl 0 rfl) ?_
        obtain ⟨o11, hF⟩ := hF
        refine zgov (zrunV (As := []) (rest := []) C hE hH hS hl.1 (c_X11_token (l := l) hM  o11) k_RX11_152 ⟨Nat.le_of_ble_eq_true rfl, Nat.le_of_ble_eq_true rfl⟩ (zM_n0 hM) (zM_k0 hM) rfl rfl rfl (Nat.le_of_ble_eq_true rfl) dX11_takeBut_59 ⟨Nat.zero_le _, Nat.zero_le _⟩) hS (fun X12 Y13 Rq H locs hq hH hS => ?_)
        obtain ⟨h9R, hq⟩ := hq
        dsimp only at h9R
        rw [h9R] at hH
        have hF := hF X12 hH.2.2.1 Y13 hH.2.2.2 hq
        refine zd_iconst C dX11_takeBut_62 ?_
        exact zd_zret C hr hlk hH hS (by decide) (⟨rfl, _, rfl, hF⟩) dX11_takeBut_63
      · have hF := hF.2 c10
        refine lv_aload_n C.1 C.2.1 dX11_takeBut_44 rfl (lv_at hl 0 rfl) ?_
        refine zd_iconst C dX11_takeBut_45 ?_
        refine lv_aload_n C.1 C.2.1 dX11_takeBut_46 rfl (lv_at hl 0 rfl) ?_
        refine zg11_13 C hH (zM_n0 hM) (zM_k0 hM) q_1300 dX11_takeBut_47 ?_
        refine zgov (zrunV (As := [.int (zI (2)), .int (zI (X3 (i) 13))]) (rest := []) C hE hH hS hl.1 (c_X11_addsFault (l := l) hM (2) (by decide) (X3 (i) 13) (hH.2.2.1 _ _)) k_RX11_144 ⟨Nat.le_of_ble_eq_true rfl, Nat.le_of_ble_eq_true rfl⟩ (zM_n0 hM) (zM_k0 hM) rfl rfl rfl (Nat.le_of_ble_eq_true rfl) dX11_takeBut_50 ⟨Nat.zero_le _, Nat.zero_le _⟩) hS (fun X14 Yq Rq H locs hq hH hS => ?_)
        obtain ⟨h9Y, h9R, hq⟩ := hq
        dsimp only at h9Y h9R
        rw [h9Y, h9R] at hH
        have hF := hF X14 hH.2.2.1 hq
        refine lv_aload_n C.1 C.2.1 dX11_takeBut_53 rfl (lv_at hl 0 rfl) ?_
        refine zd_iconst C dX11_takeBut_54 ?_
        refine zp11_22 C hH hS (zM_n0 hM) (zM_k0 hM) q_1309 (by decide) dX11_takeBut_55 (fun H locs hH hS => ?_)
        obtain ⟨X15, eX15⟩ : ∃ z, z = zU X14 (i) 22 (0) := ⟨_, rfl⟩
        rw [← eX15] at hH
        have hF := hF X15 eX15 hH.2.2.1
        refine lv_aload_n C.1 C.2.1 dX11_takeBut_58 rfl (lv_at hl 0 rfl) ?_
        obtain ⟨o16, hF⟩ := hF
        refine zgov (zrunV (As := []) (rest := []) C hE hH hS hl.1 (c_X11_token (l := l) hM  o16) k_RX11_152 ⟨Nat.le_of_ble_eq_true rfl, Nat.le_of_ble_eq_true rfl⟩ (zM_n0 hM) (zM_k0 hM) rfl rfl rfl (Nat.le_of_ble_eq_true rfl) dX11_takeBut_59 ⟨Nat.zero_le _, Nat.zero_le _⟩) hS (fun X17 Y18 Rq H locs hq hH hS => ?_)
        obtain ⟨h9R, hq⟩ := hq
        dsimp only at h9R
        rw [h9R] at hH
        have hF := hF X17 hH.2.2.1 Y18 hH.2.2.2 hq
        refine zd_iconst C dX11_takeBut_62 ?_
        exact zd_zret C hr hlk hH hS (by decide) (⟨rfl, _, rfl, hF⟩) dX11_takeBut_63
  · have hF := hF.2 c1
    refine lv_aload_n C.1 C.2.1 dX11_takeBut_8 rfl (lv_at hl 0 rfl) ?_
    refine zgoi (zrunV (As := []) (rest := []) C hE hH hS hl.1 (c_X11_fails (l := l) hM ) k_RX11_140 ⟨Nat.le_of_ble_eq_true rfl, Nat.le_of_ble_eq_true rfl⟩ (zM_n0 hM) (zM_k0 hM) rfl rfl rfl (Nat.le_of_ble_eq_true rfl) dX11_takeBut_9 ⟨Nat.zero_le _, Nat.zero_le _⟩) hS (fun rq X19 Yq Rq H locs hrq hq hH hS => ?_)
    obtain ⟨h9Y, h9R, hq⟩ := hq
    dsimp only at h9Y h9R
    rw [h9Y, h9R] at hH
    obtain ⟨r20, h91, hq⟩ := hq
    subst h91
    have hF := hF r20 X19 hH.2.2.1 hq
    exact zd_zret C hr hlk hH hS bz_01 (⟨rfl, _, rfl, hF⟩) dX11_takeBut_12
theorem v_X11_takeBut {X Y : Nat → Int → Int} {R : Nat → Int → Option Nat} {i : Nat} (a : Int) (ha : rI a) (b : Int) (hb : rI b) (g : Int) (hg : rI g) (d : Int) (hd : rI d) (hp : oRd X i ∧ 0 ≤ a ∧ a < 4) : F_X11_takeBut i X Y R a b g d := by
  unfold F_X11_takeBut
  intro hX hY
  obtain ⟨hr, hk⟩ := hp
  refine ⟨?_, ?_⟩
  · intro c1
    refine ⟨?_, ?_⟩
    · first | omega | exact ⟨by omega, by omega⟩ | decide | assumption | exact ⟨by omega, by omega, by omega⟩ | exact ⟨by decide, by decide⟩
    intro X3
    intro eX3
    have g15 : X3 i 15 = X i 15 := by rw [eX3, zU_o (by omega)]
    have g13 : X3 i 13 = X i 13 := by rw [eX3, zU_o (by omega)]
    rw [g15, g13]
    intro rX3
    refine ⟨?_, ?_⟩
    · intro c2
      intro X5
      intro rX5
      intro h1
      intro X6
      intro eX6
      have e6 : X6 = tbX X i a b g d := by
        unfold tbX
        rw [c2, Bool.false_and, if_neg (by decide), eX6, h1, eX3]
      intro rX6
      refine ⟨?_, ?_⟩
      · rw [e6]
        exact oRd_b hr
      intro X8
      intro rX8
      intro Y9
      intro rY9
      intro h2
      refine ⟨(decide_eq_true c1).symm, fun h => absurd h (by decide), fun _ => ?_⟩
      rw [e6] at h2
      exact tb_fin hr h2
    intro c3
    refine ⟨?_, ?_⟩
    · intro c4
      have e3 : X3 = tbX X i a b g d := by
        unfold tbX
        rw [c3, decide_eq_true c4, eX3]
        rfl
      refine ⟨?_, ?_⟩
      · rw [e3]
        exact oRd_b hr
      intro X12
      intro rX12
      intro Y13
      intro rY13
      intro h3
      refine ⟨(decide_eq_true c1).symm, fun h => absurd h (by decide), fun _ => ?_⟩
      rw [e3] at h3
      exact tb_fin hr h3
    intro c5
    intro X14
    intro rX14
    intro h4
    intro X15
    intro eX15
    have e15 : X15 = tbX X i a b g d := by
      unfold tbX
      rw [decide_eq_false c5, Bool.and_false, if_neg (by decide), eX15, h4, eX3]
    intro rX15
    refine ⟨?_, ?_⟩
    · rw [e15]
      exact oRd_b hr
    intro X17
    intro rX17
    intro Y18
    intro rY18
    intro h5
    refine ⟨(decide_eq_true c1).symm, fun h => absurd h (by decide), fun _ => ?_⟩
    rw [e15] at h5
    exact tb_fin hr h5
  intro c6
  intro r20
  intro X19
  intro rX19
  intro h6
  exact ⟨by rw [h6.1, decide_eq_false c6], fun _ => ⟨h6.2, rfl⟩, fun h => by rw [h6.1] at h; cases h⟩
theorem c_X11_takeBut {l : Launch} {D : va_G} {cy : Nat → ClassId} {bs N : Nat} {sa : Nat → Nat} {kd len : Nat → Nat} {X Y : Nat → Int → Int} {R : Nat → Int → Option Nat} {i : Nat} (hM : zM N kd len R i) (a : Int) (ha : rI a) (b : Int) (hb : rI b) (g : Int) (hg : rI g) (d : Int) (hd : rI d) (hp : oRd X i ∧ 0 ≤ a ∧ a < 4) : Met l yX11_takeBut (.code yX11_takeBut cX11_takeBut 5 (some .boolean) :: zTB) (zRm 2 44) (zPc D cy bs sa N kd len X Y R [.ref (bs + (i)), .int (zI (a)), .int (zI (b)), .int (zI (g)), .int (zI (d))]) (zQi D cy bs N kd len (fun r st => st.2.2 = R ∧ ∃ rb : Bool, r = bz rb ∧ (rb = decide (X i 14 = 3) ∧ (rb = false → (st.1) = zU X i 17 (X i 13) ∧ (st.2.1) = Y) ∧ (rb = true → tkC (tbX X i (a) (b) (g) (d)) (st.1) Y (st.2.1) i ∧ tkAt (st.1) (st.2.1) i (X i 11).toNat ∧ oRd (st.1) i)))) 0 0 (zA bs) := w_X11_takeBut hM a ha b hb g hg d hd (v_X11_takeBut a ha b hb g hg d hd hp)
abbrev cX11_take : ByteArray := prog_13_method_19_code
def yX11_take : MethodName := ⟨RX11, "take", "(III)Z"⟩
theorem dX11_take_0 : decode cX11_take 0 = .ok (.aload_n 0, 1) := by decide +kernel
theorem dX11_take_1 : decode cX11_take 1 = .ok (.iload_n 1, 1) := by decide +kernel
theorem dX11_take_2 : decode cX11_take 2 = .ok (.iload_n 2, 1) := by decide +kernel
theorem dX11_take_3 : decode cX11_take 3 = .ok (.iload_n 3, 1) := by decide +kernel
theorem dX11_take_4 : decode cX11_take 4 = .ok (.iconst (-1), 1) := by decide +kernel
theorem dX11_take_5 : decode cX11_take 5 = .ok (.invokevirtual 155, 3) := by decide +kernel
theorem dX11_take_8 : decode cX11_take 8 = .ok (.ireturn, 1) := by decide +kernel
theorem q_1556 : Cond.methodLink RX11 155 yX11_takeBut ∈ zTB := zmem 1556 (by decide +kernel) rfl
theorem q_1558 : Cond.instanceMethod yX11_takeBut ∈ zTB := zmem 1558 (by decide +kernel) rfl
theorem q_45 : Cond.selects RX11 yX11_takeBut yX11_takeBut ∈ zTB := zmem 45 (by decide +kernel) rfl
theorem q_1559 : Cond.code yX11_takeBut cX11_takeBut 5 (some .boolean) ∈ zTB := zmem 1559 (by decide +kernel) rfl
theorem k_RX11_155 : zLv RX11 155 RX11 yX11_takeBut cX11_takeBut 5 (some .boolean) 4 := ⟨⟨q_1556, q_1558, q_45, q_140, q_1559⟩, rfl, ⟨by decide, by decide⟩, by decide +kernel⟩
def F_X11_take (i : Nat) (X Y : Nat → Int → Int) (R : Nat → Int → Option Nat) (a : Int) (b : Int) (g : Int) : Prop := (∀ i j, rI (X i j)) → (∀ i j, rL (Y i j)) → (oRd X i ∧ 0 ≤ a ∧ a < 4) ∧ (∀ r4 : Bool, ∀ X2 : Nat → Int → Int, (∀ i j, rI (X2 i j)) → ∀ Y3 : Nat → Int → Int, (∀ i j, rL (Y3 i j)) → (r4 = decide (X i 14 = 3) ∧ (r4 = false → (X2) = zU X i 17 (X i 13) ∧ (Y3) = Y) ∧ (r4 = true → tkC (tbX X i (a) (b) (g) ((-1 : Int))) (X2) Y (Y3) i ∧ tkAt (X2) (Y3) i (X i 11).toNat ∧ oRd (X2) i)) → (r4 = decide (X i 14 = 3) ∧ (r4 = false → (X2) = zU X i 17 (X i 13) ∧ (Y3) = Y) ∧ (r4 = true → tkC (tbX X i (a) (b) (g) (-1)) (X2) Y (Y3) i ∧ tkAt (X2) (Y3) i (X i 11).toNat ∧ oRd (X2) i)))
set_option maxHeartbeats 4000000 in
set_option maxRecDepth 100000 in
theorem w_X11_take {l : Launch} {D : va_G} {cy : Nat → ClassId} {bs N : Nat} {sa : Nat → Nat} {kd len : Nat → Nat} {X Y : Nat → Int → Int} {R : Nat → Int → Option Nat} {i : Nat} (hM : zM N kd len R i) (a : Int) (ha : rI a) (b : Int) (hb : rI b) (g : Int) (hg : rI g) (hF : F_X11_take i X Y R a b g) : Met l yX11_take (.code yX11_take cX11_take 4 (some .boolean) :: zTB) (zRm 3 68) (zPc D cy bs sa N kd len X Y R [.ref (bs + (i)), .int (zI (a)), .int (zI (b)), .int (zI (g))]) (zQi D cy bs N kd len (fun r st => st.2.2 = R ∧ ∃ rb : Bool, r = bz rb ∧ (rb = decide (X i 14 = 3) ∧ (rb = false → (st.1) = zU X i 17 (X i 13) ∧ (st.2.1) = Y) ∧ (rb = true → tkC (tbX X i (a) (b) (g) (-1)) (st.1) Y (st.2.1) i ∧ tkAt (st.1) (st.2.1) i (X i 11).toNat ∧ oRd (st.1) i)))) 0 0 (zA bs) := by
  refine zstart (by decide) (Nat.le_of_ble_eq_true rfl) ?_
  intro p e s m args below meth c ls C hE hH hr hlk hnm hl hargs
  have hF := hF hH.2.2.1 hH.2.2.2
  have hS : va_S (zA bs) s.heap s.heap [] := va_S.rf
  have hl : lv_has ls 4 [(0, .ref (bs + (i))), (1, .int (zI (a))), (2, .int (zI (b))), (3, .int (zI (g)))] := hl
  refine lv_aload_n C.1 C.2.1 dX11_take_0 rfl (lv_at hl 0 rfl) ?_
  refine lv_iload_n C.1 C.2.1 dX11_take_1 rfl (lv_at hl 1 rfl) ?_
  refine lv_iload_n C.1 C.2.1 dX11_take_2 rfl (lv_at hl 2 rfl) ?_
  refine lv_iload_n C.1 C.2.1 dX11_take_3 rfl (lv_at hl 3 rfl) ?_
  refine zd_iconst C dX11_take_4 ?_
  obtain ⟨o1, hF⟩ := hF
  refine zgoi (zrunV (As := [.int (zI (a)), .int (zI (b)), .int (zI (g)), .int (zI ((-1)))]) (rest := []) C hE hH hS hl.1 (c_X11_takeBut (l := l) hM (a) ha (b) hb (g) hg ((-1)) (by decide) o1) k_RX11_155 ⟨Nat.le_of_ble_eq_true rfl, Nat.le_of_ble_eq_true rfl⟩ (zM_n0 hM) (zM_k0 hM) rfl rfl rfl (Nat.le_of_ble_eq_true rfl) dX11_take_5 ⟨Nat.zero_le _, Nat.zero_le _⟩) hS (fun rq X2 Y3 Rq H locs hrq hq hH hS => ?_)
  obtain ⟨h9R, hq⟩ := hq
  dsimp only at h9R
  rw [h9R] at hH
  obtain ⟨r4, h91, hq⟩ := hq
  subst h91
  have hF := hF r4 X2 hH.2.2.1 Y3 hH.2.2.2 hq
  exact zd_zret C hr hlk hH hS bz_01 (⟨rfl, _, rfl, hF⟩) dX11_take_8
theorem v_X11_take {X Y : Nat → Int → Int} {R : Nat → Int → Option Nat} {i : Nat} (a : Int) (ha : rI a) (b : Int) (hb : rI b) (g : Int) (hg : rI g) (hp : oRd X i ∧ 0 ≤ a ∧ a < 4) : F_X11_take i X Y R a b g := by
  unfold F_X11_take
  intro hX hY
  refine ⟨?_, ?_⟩
  · exact hp
  intro r4
  intro X2
  intro rX2
  intro Y3
  intro rY3
  intro h1
  exact h1
theorem c_X11_take {l : Launch} {D : va_G} {cy : Nat → ClassId} {bs N : Nat} {sa : Nat → Nat} {kd len : Nat → Nat} {X Y : Nat → Int → Int} {R : Nat → Int → Option Nat} {i : Nat} (hM : zM N kd len R i) (a : Int) (ha : rI a) (b : Int) (hb : rI b) (g : Int) (hg : rI g) (hp : oRd X i ∧ 0 ≤ a ∧ a < 4) : Met l yX11_take (.code yX11_take cX11_take 4 (some .boolean) :: zTB) (zRm 3 68) (zPc D cy bs sa N kd len X Y R [.ref (bs + (i)), .int (zI (a)), .int (zI (b)), .int (zI (g))]) (zQi D cy bs N kd len (fun r st => st.2.2 = R ∧ ∃ rb : Bool, r = bz rb ∧ (rb = decide (X i 14 = 3) ∧ (rb = false → (st.1) = zU X i 17 (X i 13) ∧ (st.2.1) = Y) ∧ (rb = true → tkC (tbX X i (a) (b) (g) (-1)) (st.1) Y (st.2.1) i ∧ tkAt (st.1) (st.2.1) i (X i 11).toNat ∧ oRd (st.1) i)))) 0 0 (zA bs) := w_X11_take hM a ha b hb g hg (v_X11_take a ha b hb g hg hp)
abbrev cX11_full : ByteArray := prog_13_method_20_code
def yX11_full : MethodName := ⟨RX11, "full", "(III)V"⟩
theorem dX11_full_0 : decode cX11_full 0 = .ok (.aload_n 0, 1) := by decide +kernel
theorem dX11_full_1 : decode cX11_full 1 = .ok (.getfield 41, 3) := by decide +kernel
theorem dX11_full_4 : decode cX11_full 4 = .ok (.iload_n 1, 1) := by decide +kernel
theorem dX11_full_5 : decode cX11_full 5 = .ok (.iaload, 1) := by decide +kernel
theorem dX11_full_6 : decode cX11_full 6 = .ok (.iload_n 2, 1) := by decide +kernel
theorem dX11_full_7 : decode cX11_full 7 = .ok (.if_icmp .lt 9, 3) := by decide +kernel
theorem dX11_full_10 : decode cX11_full 10 = .ok (.aload_n 0, 1) := by decide +kernel
theorem dX11_full_11 : decode cX11_full 11 = .ok (.iconst 3, 1) := by decide +kernel
theorem dX11_full_12 : decode cX11_full 12 = .ok (.iload_n 3, 1) := by decide +kernel
theorem dX11_full_13 : decode cX11_full 13 = .ok (.invokevirtual 144, 3) := by decide +kernel
theorem dX11_full_16 : decode cX11_full 16 = .ok (.return_, 1) := by decide +kernel
theorem q_1307 : Cond.fieldLink RX11 41 RX11 "told" "[I" ∈ zTB := zmem 1307 (by decide +kernel) rfl
def F_X11_full (i : Nat) (X Y : Nat → Int → Int) (R : Nat → Int → Option Nat) (a : Int) (b : Int) (g : Int) : Prop := (∀ i j, rI (X i j)) → (∀ i j, rL (Y i j)) → (0 ≤ a ∧ a < 183) ∧ ((((X (i + 11) (a)) < b) → ((X) = if b ≤ X (i + 11) (a) then adF X i 3 (g) else X)) ∧ ((¬ ((X (i + 11) (a)) < b)) → (∀ X3 : Nat → Int → Int, (∀ i j, rI (X3 i j)) → ((X3) = adF X i ((3 : Int)) (g)) → ((X3) = if b ≤ X (i + 11) (a) then adF X i 3 (g) else X))))
set_option maxHeartbeats 4000000 in
set_option maxRecDepth 100000 in
theorem w_X11_full {l : Launch} {D : va_G} {cy : Nat → ClassId} {bs N : Nat} {sa : Nat → Nat} {kd len : Nat → Nat} {X Y : Nat → Int → Int} {R : Nat → Int → Option Nat} {i : Nat} (hM : zM N kd len R i) (a : Int) (ha : rI a) (b : Int) (hb : rI b) (g : Int) (hg : rI g) (hF : F_X11_full i X Y R a b g) : Met l yX11_full (.code yX11_full cX11_full 4 none :: zTB) (zRm 1 22) (zPc D cy bs sa N kd len X Y R [.ref (bs + (i)), .int (zI (a)), .int (zI (b)), .int (zI (g))]) (zQv D cy bs N kd len (fun st => st.2.1 = Y ∧ st.2.2 = R ∧ ((st.1) = if b ≤ X (i + 11) (a) then adF X i 3 (g) else X))) 0 0 (zA bs) := by
  refine zstart (by decide) (Nat.le_of_ble_eq_true rfl) ?_
  intro p e s m args below meth c ls C hE hH hr hlk hnm hl hargs
  have hF := hF hH.2.2.1 hH.2.2.2
  have hS : va_S (zA bs) s.heap s.heap [] := va_S.rf
  have hl : lv_has ls 4 [(0, .ref (bs + (i))), (1, .int (zI (a))), (2, .int (zI (b))), (3, .int (zI (g)))] := hl
  refine lv_aload_n C.1 C.2.1 dX11_full_0 rfl (lv_at hl 0 rfl) ?_
  refine zg11_20 C hH (zM_n0 hM) (zM_k0 hM) q_1307 (zM_r11 hM) dX11_full_1 ?_
  refine lv_iload_n C.1 C.2.1 dX11_full_4 rfl (lv_at hl 1 rfl) ?_
  obtain ⟨o1, hF⟩ := hF
  refine zd_iald C hH (zM_n11 hM) (zM_k11 hM) o1.1 (by rw [zM_l11 hM]; exact o1.2) (by rw [zM_l11 hM]; decide) dX11_full_5 ?_
  refine lv_iload_n C.1 C.2.1 dX11_full_6 rfl (lv_at hl 2 rfl) ?_
  refine zd_icmp_lt C (hH.2.2.1 _ _) hb 16 dX11_full_7 (by decide) (fun c2 => ?_) (fun c2 => ?_)
  · have hF := hF.1 c2
    exact zd_vret C hr hlk hH hS (⟨rfl, rfl, hF⟩) dX11_full_16
  · have hF := hF.2 c2
    refine lv_aload_n C.1 C.2.1 dX11_full_10 rfl (lv_at hl 0 rfl) ?_
    refine zd_iconst C dX11_full_11 ?_
    refine lv_iload_n C.1 C.2.1 dX11_full_12 rfl (lv_at hl 3 rfl) ?_
    refine zgov (zrunV (As := [.int (zI (3)), .int (zI (g))]) (rest := []) C hE hH hS hl.1 (c_X11_addsFault (l := l) hM (3) (by decide) (g) hg) k_RX11_144 ⟨Nat.le_of_ble_eq_true rfl, Nat.le_of_ble_eq_true rfl⟩ (zM_n0 hM) (zM_k0 hM) rfl rfl rfl (Nat.le_of_ble_eq_true rfl) dX11_full_13 ⟨Nat.zero_le _, Nat.zero_le _⟩) hS (fun X3 Yq Rq H locs hq hH hS => ?_)
    obtain ⟨h9Y, h9R, hq⟩ := hq
    dsimp only at h9Y h9R
    rw [h9Y, h9R] at hH
    have hF := hF X3 hH.2.2.1 hq
    exact zd_vret C hr hlk hH hS (⟨rfl, rfl, hF⟩) dX11_full_16
theorem v_X11_full {X Y : Nat → Int → Int} {R : Nat → Int → Option Nat} {i : Nat} (a : Int) (ha : rI a) (b : Int) (hb : rI b) (g : Int) (hg : rI g) (hp : 0 ≤ a ∧ a < 183) : F_X11_full i X Y R a b g := by
  unfold F_X11_full
  intro hX hY
  refine ⟨?_, ?_⟩
  · first | omega | exact ⟨by omega, by omega⟩ | decide | assumption | exact ⟨by omega, by omega, by omega⟩ | exact ⟨by decide, by decide⟩
  refine ⟨?_, ?_⟩
  · intro c1
    rw [if_neg (by omega)]
  intro c2
  intro X3
  intro rX3
  intro h1
  rw [if_pos (by omega), h1]
theorem c_X11_full {l : Launch} {D : va_G} {cy : Nat → ClassId} {bs N : Nat} {sa : Nat → Nat} {kd len : Nat → Nat} {X Y : Nat → Int → Int} {R : Nat → Int → Option Nat} {i : Nat} (hM : zM N kd len R i) (a : Int) (ha : rI a) (b : Int) (hb : rI b) (g : Int) (hg : rI g) (hp : 0 ≤ a ∧ a < 183) : Met l yX11_full (.code yX11_full cX11_full 4 none :: zTB) (zRm 1 22) (zPc D cy bs sa N kd len X Y R [.ref (bs + (i)), .int (zI (a)), .int (zI (b)), .int (zI (g))]) (zQv D cy bs N kd len (fun st => st.2.1 = Y ∧ st.2.2 = R ∧ ((st.1) = if b ≤ X (i + 11) (a) then adF X i 3 (g) else X))) 0 0 (zA bs) := w_X11_full hM a ha b hb g hg (v_X11_full a ha b hb g hg hp)
/-! LINES, as the document has them -/
def nt (fl : Int × Int) (f pl : Int) : Int × Int := if fl.1 = 0 then (f, pl) else fl
/-- whether a number can be: of a sort, a word, which number, its value, the first one's value -/
def cbN (of w j v v0 : Int) (told : Int → Int) : Bool :=
  if of = 0 then (if w = 0 then mIn v 1 9 else if w < 3 then mIn v 1 99 else if w < 5 then mIn v 0 1 else mIn v 0 99)
  else if of = 1 then (if w = 0 then (if j = 0 then mIn v 0 (told 0) else if j = 1 then mIn v 0 99 else mIn v 0 5) else (if j = 0 then mIn v 0 5 else if j = 1 then mIn v 0 5 && decide (v ≠ v0) else mIn v 1 99))
  else if of = 2 then (if w = 3 then mIn v 0 1 else mIn v 1 14)
  else if of = 3 then (if j = 0 then mIn v 0 40 else mIn v 0 14)
  else (if j = 0 then mIn v 0 5 else if j = 1 then mIn v 0 5 && decide (v ≠ v0) else if j = 2 then mIn v 1 99 else mIn v 0 9)
/-- whether there are too many -/
def fuN (of w : Int) (told : Int → Int) (po : Int) : Bool :=
  if of = 0 then decide (w = 6) && decide (6 ≤ told 6)
  else if of = 1 then (if w = 0 then decide (14 ≤ told 0) else decide (po = 0) || decide (told po = 3))
  else if of = 2 then decide (40 ≤ told 0) else if of = 3 then decide (8 ≤ told 0) else decide (6 ≤ told 0)
def ncN (of : Int) : Nat := if of = 1 then 3 else if of = 3 then 2 else if of = 4 then 4 else 1
/-- which word it is -/
def kwN (of w : Int) : Int :=
  if of = 0 then (if w = 1937007984 then 0 else if w = 127961880028532 then 1 else if w = 495873782388 then 2 else if w = 1920298085 then 3 else if w = 7629157 then 4 else if w = 125780120138340 then 5 else if w = 27412351463812724 then 6 else -1)
  else if of = 1 then (if w = 422726034283 then 0 else if w = 7364985 then 1 else -1)
  else if of = 2 then (if w = 1751474532 then 0 else if w = 1651467385 then 1 else if w = 1685221232 then 2 else if w = 1920298085 then 3 else -1)
  else if of = 3 then (if w = 7629168 then 0 else -1)
  else (if w = 7364985 then 0 else -1)
def kwT (T : Int → Int) (n p : Nat) (of : Int) : Int := kwN of (if tkS T n p = 2 then tkW T n p else 0)
/-- what a line tells -/
def upS (t : Int → Int) (a : Int) (v : Nat → Int) : Nat → Int → Int
  | 0 => t
  | q + 1 => upI (upS t a v q) (a + q) (v q)
def tlN (of w : Int) (v : Nat → Int) (s : (Int → Int) × Int) : (Int → Int) × Int :=
  if of = 0 then (if w = 6 then (upI (upI s.1 (7 + s.1 6) (v 0)) 6 (s.1 6 + 1), s.2) else (upI s.1 w (v 0), s.2))
  else if of = 1 then (if w = 0 then (upI (upI (upI (upS s.1 (1 + 13 * s.1 0) v 3) (4 + 13 * s.1 0) 0) 182 0) 0 (s.1 0 + 1), 4 + 13 * s.1 0) else (upI (upS s.1 (s.2 + 1 + 3 * s.1 s.2) v 3) s.2 (s.1 s.2 + 1), s.2))
  else if of = 2 then (upI (upS s.1 (1 + 2 * s.1 0) (fun j => if j = 0 then w else v 0) 2) 0 (s.1 0 + 1), s.2)
  else if of = 3 then (upI (upS s.1 (1 + 2 * s.1 0) v 2) 0 (s.1 0 + 1), s.2)
  else (upI (upS s.1 (1 + 4 * s.1 0) v 4) 0 (s.1 0 + 1), s.2)
/-- positions behind so many tokens -/
def ptN (T : Int → Int) (n p : Nat) : Nat → Nat
  | 0 => p
  | j + 1 => tkN T n (ptN T n p j)
/-- the numbers of a line, from the token behind its word on: the fault so far, or where no text goes on -/
def rdN (T : Int → Int) (n : Nat) (of w : Int) (told : Int → Int) (p : Nat) (fl : Int × Int) : Nat → Int ⊕ (Int × Int)
  | 0 => .inr fl
  | j + 1 => match rdN T n of w told p fl j with
    | .inl pl => .inl pl
    | .inr f => if tkS T n (ptN T n p j) = 3 then .inr (if cbN of w j (tkV T n (ptN T n p j)) (tkV T n p) told then f else nt f 2 (tkB T n (ptN T n p j))) else .inl (tkB T n (ptN T n p j))
abbrev rST : Type := Nat × ((Int → Int) × Int) × (Int × Int)
/-- a line but its mark -/
def rdL (T : Int → Int) (n : Nat) (of : Int) (s : rST) : Int ⊕ rST :=
  if kwT T n s.1 of = -1 then .inl (tkB T n s.1)
  else match rdN T n of (kwT T n s.1 of) s.2.1.1 (tkN T n s.1) (if fuN of (kwT T n s.1 of) s.2.1.1 s.2.1.2 then nt s.2.2 3 (tkB T n s.1) else s.2.2) (ncN of) with
    | .inl pl => .inl pl
    | .inr f => .inr (ptN T n (tkN T n s.1) (ncN of), if f.1 = 0 then tlN of (kwT T n s.1 of) (fun j => tkV T n (ptN T n (tkN T n s.1) j)) s.2.1 else s.2.1, f)
/-- what the rows hold of it -/
def rdS (X Y : Nat → Int → Int) (i : Nat) (s : rST) : Prop := (s.1 ≤ (X i 12).toNat ∧ tkAt X Y i s.1) ∧ (X i 18 = s.2.2.1 ∧ (s.2.2.1 ≠ 0 → X i 19 = s.2.2.2 ∧ s.2.2.2 < tkB (X (i + 1)) (X i 12).toNat s.1)) ∧ (s.2.2.1 = 0 → (∀ y, 0 ≤ y → y < 183 → X (i + 11) y = s.2.1.1 y) ∧ X i 23 = s.2.1.2)
/-- what reading leaves as it is -/
def rdK (X X1 Y Y1 : Nat → Int → Int) (i : Nat) : Prop := (∀ z, z ≠ i → z ≠ i + 11 → z ≠ i + 12 → X1 z = X z) ∧ (∀ s, (s < 11 ∨ s = 12 ∨ 23 < s) → X1 i s = X i s) ∧ ∀ z, z ≠ i → Y1 z = Y z
theorem rdK.tr {X X1 X2 Y Y1 Y2 : Nat → Int → Int} {i : Nat} (h : rdK X X1 Y Y1 i) (g : rdK X1 X2 Y1 Y2 i) : rdK X X2 Y Y2 i :=
  ⟨fun a h1 h2 h3 => (g.1 a h1 h2 h3).trans (h.1 a h1 h2 h3), fun s h1 => (g.2.1 s h1).trans (h.2.1 s h1), fun a h1 => (g.2.2 a h1).trans (h.2.2 a h1)⟩
/-- a number is taken -/
theorem tk_st {X X1 Y Y1 : Nat → Int → Int} {i : Nat} {k low high but : Int} {r : Bool} (hr : oRd X i)
    (h : r = decide (X i 14 = 3) ∧ (r = false → X1 = zU X i 17 (X i 13) ∧ Y1 = Y) ∧ (r = true → tkC (tbX X i k low high but) X1 Y Y1 i ∧ tkAt X1 Y1 i (X i 11).toNat ∧ oRd X1 i)) :
    rdK X X1 Y Y1 i ∧ X1 (i + 11) = X (i + 11) ∧ X1 i 23 = X i 23 ∧ (r = false → X1 i 17 = X i 13 ∧ ∀ p, tkAt X Y i p → tkS (X (i + 1)) (X i 12).toNat p ≠ 3) ∧
    (r = true → oRd X1 i ∧ X1 (i + 12) = upI (X (i + 12)) k (X i 15) ∧ X i 14 = 3 ∧ ((mIn (X i 15) low high && decide (X i 15 ≠ but)) = true → X1 i 22 = X i 22) ∧ ∀ s, rdS X Y i s → tkS (X (i + 1)) (X i 12).toNat s.1 = 3 ∧ X i 15 = tkV (X (i + 1)) (X i 12).toNat s.1 ∧ rdS X1 Y1 i (tkN (X (i + 1)) (X i 12).toNat s.1, s.2.1, if mIn (tkV (X (i + 1)) (X i 12).toNat s.1) low high && decide (tkV (X (i + 1)) (X i 12).toNat s.1 ≠ but) then s.2.2 else nt s.2.2 2 (tkB (X (i + 1)) (X i 12).toNat s.1))) := by
  obtain ⟨hr1, h0, h1⟩ := h
  cases hrr : r with
  | false =>
    obtain ⟨e1, e2⟩ := h0 hrr
    rw [e1, e2]
    refine ⟨⟨fun z h1 h2 h3 => by rw [zU_o h1], fun s hs => by rw [zU_n (by omega)], fun _ _ => rfl⟩, by rw [zU_o (by omega)], by rw [zU_n (by omega)], fun _ => ⟨zU_s, fun p hp => ?_⟩, fun g => absurd g (by decide)⟩
    rw [← hp.2.2.1]
    rw [hrr] at hr1
    exact of_decide_eq_false hr1.symm
  | true =>
    obtain ⟨c, ta, r1⟩ := h1 hrr
    rw [hrr] at hr1
    have h14 := of_decide_eq_true hr1.symm
    have o := @tbX_o X i k low high but
    refine ⟨⟨fun z h1 h2 h3 => (c.1 z h1).trans (o.1 z h1 h3), fun s hs => (c.2.1 s (by omega) (by omega) (by omega) (by omega)).trans (o.2.1 s (by omega) (by omega) (by omega)), c.2.2⟩, (c.1 _ (by omega)).trans (o.1 _ (by omega) (by omega)), (c.2.1 23 (by decide) (by decide) (by decide) (by decide)).trans (o.2.1 _ (by decide) (by decide) (by decide)), fun g => absurd g (by decide), fun _ => ⟨r1, (c.1 _ (by omega)).trans o.2.2, h14, fun g => by rw [c.2.1 22 (by decide) (by decide) (by decide) (by decide)]; unfold tbX; rw [if_pos g, zU_o (by omega)], fun s hs => ?_⟩⟩
    obtain ⟨⟨sn, sa⟩, ⟨s18, s19⟩, st⟩ := hs
    have k3 : tkS (X (i + 1)) (X i 12).toNat s.1 = 3 := by rw [← sa.2.2.1]; exact h14
    have v3 := sa.2.2.2.1 h14
    have le := tk_le (T := X (i + 1)) sn
    have lt := (le.2.2 (by omega)).2
    have f1 : X1 (i + 1) = X (i + 1) := (c.1 _ (by omega)).trans (o.1 _ (by omega) (by omega))
    have f2 : X1 i 12 = X i 12 := (c.2.1 12 (by decide) (by decide) (by decide) (by decide)).trans (o.2.1 _ (by decide) (by decide) (by decide))
    have e11 : (X i 11).toNat = tkN (X (i + 1)) (X i 12).toNat s.1 := by rw [sa.1]; rfl
    refine ⟨k3, v3, ⟨by rw [f2]; exact le.2.1.2, by rw [← e11]; exact ta⟩, ⟨?_, ?_⟩, ?_⟩
    · rw [c.2.1 18 (by decide) (by decide) (by decide) (by decide)]
      show tbX X i k low high but i 18 = (if _ then s.2.2 else nt s.2.2 2 _).1
      unfold tbX
      rw [v3]
      split
      · rw [zU_o (by omega)]
        exact s18
      · rw [zU_n (by omega)]
        unfold adF nt
        rw [zU_o (show i ≠ i + 12 by omega), sa.2.1]
        by_cases z : s.2.2.1 = 0
        · rw [if_pos (Or.inl (s18.trans z)), if_pos z, zU_n (by omega), zU_s]
        · have q := s19 z
          rw [if_neg (by omega), if_neg z, zU_o (by omega)]
          exact s18
    · rw [c.2.1 19 (by decide) (by decide) (by decide) (by decide), f1, f2]
      show (if _ then s.2.2 else nt s.2.2 2 _).1 ≠ 0 → tbX X i k low high but i 19 = (if _ then s.2.2 else nt s.2.2 2 _).2 ∧ (if _ then s.2.2 else nt s.2.2 2 _).2 < _
      unfold tbX
      rw [v3]
      split
      · intro z
        have q := s19 z
        rw [zU_o (by omega)]
        exact ⟨q.1, Int.lt_trans q.2 (Int.ofNat_lt.mpr lt)⟩
      · intro _
        rw [zU_n (by omega)]
        unfold adF nt
        rw [zU_o (show i ≠ i + 12 by omega), sa.2.1]
        by_cases z : s.2.2.1 = 0
        · rw [if_pos (Or.inl (s18.trans z)), if_pos z, zU_s]
          exact ⟨rfl, Int.ofNat_lt.mpr lt⟩
        · have q := s19 z
          rw [if_neg (by omega), if_neg z, zU_o (by omega)]
          exact ⟨q.1, Int.lt_trans q.2 (Int.ofNat_lt.mpr lt)⟩
    · intro z
      have z0 : s.2.2.1 = 0 := by
        have z : (if mIn (tkV (X (i + 1)) (X i 12).toNat s.1) low high && decide (tkV (X (i + 1)) (X i 12).toNat s.1 ≠ but) then s.2.2 else nt s.2.2 2 (tkB (X (i + 1)) (X i 12).toNat s.1)).1 = 0 := z
        split at z
        · exact z
        · unfold nt at z
          split at z
          · exact absurd (show (2 : Int) = 0 from z) (by decide)
          · exact z
      obtain ⟨q1, q2⟩ := st z0
      refine ⟨fun y y0 y1 => ?_, ?_⟩
      · rw [c.1 _ (by omega), o.1 _ (by omega) (by omega)]
        exact q1 y y0 y1
      · rw [c.2.1 23 (by decide) (by decide) (by decide) (by decide), o.2.1 _ (by decide) (by decide) (by decide)]
        exact q2
