/-! WHAT IS TOLD, ASKED; THE TAPE -/
def rpE (X : Nat → Int → Int) (j : Nat) (k w : Int) : Int := if k = -1 then (if w = 0 then X j 2 else -2) else if (0 ≤ k ∧ k < X j 2) ∧ 0 ≤ w ∧ w < X j 0 then X (j + 1) (k * X j 0 + w) else -2
def ppE (X : Nat → Int → Int) (j : Nat) (k w : Int) : Int := if 10 ≤ w ∧ w.tmod 10 < 3 ∧ w.tdiv 10 - 1 < X (j + 4) k then X (j + 5) ((k * 3 + (w.tdiv 10 - 1)) * 3 + w.tmod 10) else -2
abbrev cX10_net : ByteArray := prog_1_method_9_code
def yX10_net : MethodName := ⟨RX10, "net", "(II)I"⟩
theorem dX10_net_0 : decode cX10_net 0 = .ok (.aload_n 0, 1) := by decide +kernel
theorem dX10_net_1 : decode cX10_net 1 = .ok (.getfield 10, 3) := by decide +kernel
theorem dX10_net_4 : decode cX10_net 4 = .ok (.iload_n 1, 1) := by decide +kernel
theorem dX10_net_5 : decode cX10_net 5 = .ok (.invokevirtual 110, 3) := by decide +kernel
theorem dX10_net_8 : decode cX10_net 8 = .ok (.astore_n 3, 1) := by decide +kernel
theorem dX10_net_9 : decode cX10_net 9 = .ok (.aload_n 3, 1) := by decide +kernel
theorem dX10_net_10 : decode cX10_net 10 = .ok (.ifnonnull 5, 3) := by decide +kernel
theorem dX10_net_13 : decode cX10_net 13 = .ok (.iconst (-1), 1) := by decide +kernel
theorem dX10_net_14 : decode cX10_net 14 = .ok (.ireturn, 1) := by decide +kernel
theorem dX10_net_15 : decode cX10_net 15 = .ok (.iload_n 2, 1) := by decide +kernel
theorem dX10_net_16 : decode cX10_net 16 = .ok (.tableswitch 79 0 6 #[44, 49, 54, 59, 64, 69, 74], 44) := by decide +kernel
theorem dX10_net_60 : decode cX10_net 60 = .ok (.aload_n 3, 1) := by decide +kernel
theorem dX10_net_61 : decode cX10_net 61 = .ok (.getfield 114, 3) := by decide +kernel
theorem dX10_net_64 : decode cX10_net 64 = .ok (.ireturn, 1) := by decide +kernel
theorem dX10_net_65 : decode cX10_net 65 = .ok (.aload_n 3, 1) := by decide +kernel
theorem dX10_net_66 : decode cX10_net 66 = .ok (.getfield 119, 3) := by decide +kernel
theorem dX10_net_69 : decode cX10_net 69 = .ok (.ireturn, 1) := by decide +kernel
theorem dX10_net_70 : decode cX10_net 70 = .ok (.aload_n 3, 1) := by decide +kernel
theorem dX10_net_71 : decode cX10_net 71 = .ok (.getfield 122, 3) := by decide +kernel
theorem dX10_net_74 : decode cX10_net 74 = .ok (.ireturn, 1) := by decide +kernel
theorem dX10_net_75 : decode cX10_net 75 = .ok (.aload_n 3, 1) := by decide +kernel
theorem dX10_net_76 : decode cX10_net 76 = .ok (.getfield 125, 3) := by decide +kernel
theorem dX10_net_79 : decode cX10_net 79 = .ok (.ireturn, 1) := by decide +kernel
theorem dX10_net_80 : decode cX10_net 80 = .ok (.aload_n 3, 1) := by decide +kernel
theorem dX10_net_81 : decode cX10_net 81 = .ok (.getfield 128, 3) := by decide +kernel
theorem dX10_net_84 : decode cX10_net 84 = .ok (.ireturn, 1) := by decide +kernel
theorem dX10_net_85 : decode cX10_net 85 = .ok (.aload_n 3, 1) := by decide +kernel
theorem dX10_net_86 : decode cX10_net 86 = .ok (.getfield 131, 3) := by decide +kernel
theorem dX10_net_89 : decode cX10_net 89 = .ok (.ireturn, 1) := by decide +kernel
theorem dX10_net_90 : decode cX10_net 90 = .ok (.aload_n 3, 1) := by decide +kernel
theorem dX10_net_91 : decode cX10_net 91 = .ok (.getfield 134, 3) := by decide +kernel
theorem dX10_net_94 : decode cX10_net 94 = .ok (.ireturn, 1) := by decide +kernel
theorem dX10_net_95 : decode cX10_net 95 = .ok (.aload_n 3, 1) := by decide +kernel
theorem dX10_net_96 : decode cX10_net 96 = .ok (.iload_n 2, 1) := by decide +kernel
theorem dX10_net_97 : decode cX10_net 97 = .ok (.invokestatic 137, 3) := by decide +kernel
theorem dX10_net_100 : decode cX10_net 100 = .ok (.ifCond .eq 15, 3) := by decide +kernel
theorem dX10_net_103 : decode cX10_net 103 = .ok (.aload_n 3, 1) := by decide +kernel
theorem dX10_net_104 : decode cX10_net 104 = .ok (.getfield 141, 3) := by decide +kernel
theorem dX10_net_107 : decode cX10_net 107 = .ok (.iload_n 2, 1) := by decide +kernel
theorem dX10_net_108 : decode cX10_net 108 = .ok (.bipush 10, 2) := by decide +kernel
theorem dX10_net_110 : decode cX10_net 110 = .ok (.isub, 1) := by decide +kernel
theorem dX10_net_111 : decode cX10_net 111 = .ok (.iaload, 1) := by decide +kernel
theorem dX10_net_112 : decode cX10_net 112 = .ok (.goto 4, 3) := by decide +kernel
theorem dX10_net_115 : decode cX10_net 115 = .ok (.iconst (-1), 1) := by decide +kernel
theorem dX10_net_116 : decode cX10_net 116 = .ok (.ireturn, 1) := by decide +kernel
theorem q_181 : Cond.fieldLink RX10 119 RX6 "target" "I" ∈ zTB := zmem 181 (by decide +kernel) rfl
theorem q_184 : Cond.fieldLink RX10 122 RX6 "start" "I" ∈ zTB := zmem 184 (by decide +kernel) rfl
theorem q_192 : Cond.fieldLink RX10 131 RX6 "reward" "I" ∈ zTB := zmem 192 (by decide +kernel) rfl
theorem q_196 : Cond.fieldLink RX10 134 RX6 "accounts" "I" ∈ zTB := zmem 196 (by decide +kernel) rfl
theorem q_199 : Cond.fieldLink RX10 141 RX6 "first" "[I" ∈ zTB := zmem 199 (by decide +kernel) rfl
theorem tsw_0_6 (z : Int) (h0 : ¬ z = 0) (h1 : ¬ z = 1) (h2 : ¬ z = 2) (h3 : ¬ z = 3) (h4 : ¬ z = 4) (h5 : ¬ z = 5) (h6 : ¬ z = 6) : z < 0 ∨ 6 < z := by omega
def F_X10_net (i : Nat) (Z : Nat → Int → Int) (q : Nat) (X Y : Nat → Int → Int) (R : Nat → Int → Option Nat) (a : Int) (b : Int) : Prop := (∀ i j, rI (X i j)) → (∀ i j, rL (Y i j)) → ((0 ≤ (a) ∧ (a) < 2 ∧ (a) < X (i + 3) 0) → ((b = 0 → (X (i + 7 + 8 * (a : Int).toNat) 0 = rNet Z q (a) (b))) ∧ (b = 1 → (X (i + 7 + 8 * (a : Int).toNat) 1 = rNet Z q (a) (b))) ∧ (b = 2 → (X (i + 7 + 8 * (a : Int).toNat) 2 = rNet Z q (a) (b))) ∧ (b = 3 → (X (i + 7 + 8 * (a : Int).toNat) 3 = rNet Z q (a) (b))) ∧ (b = 4 → (X (i + 7 + 8 * (a : Int).toNat) 4 = rNet Z q (a) (b))) ∧ (b = 5 → (X (i + 7 + 8 * (a : Int).toNat) 5 = rNet Z q (a) (b))) ∧ (b = 6 → (X (i + 7 + 8 * (a : Int).toNat) 6 = rNet Z q (a) (b))) ∧ ((b < 0 ∨ 6 < b) → ((X (i + 7 + 8 * (a : Int).toNat) 6 ≤ 6) ∧ ((((mIn (b) 10 (10 + X (i + 7 + 8 * (a : Int).toNat) 6 - 1)) = false) → ((-1) = rNet Z q (a) (b))) ∧ (((mIn (b) 10 (10 + X (i + 7 + 8 * (a : Int).toNat) 6 - 1)) = true) → ((0 ≤ (zW (b - 10)) ∧ (zW (b - 10)) < 6) ∧ (X (i + 7 + 8 * (a : Int).toNat + 1) (zW (b - 10)) = rNet Z q (a) (b))))))))) ∧ (¬ (0 ≤ (a) ∧ (a) < 2 ∧ (a) < X (i + 3) 0) → ((-1) = rNet Z q (a) (b)))
set_option maxHeartbeats 4000000 in
set_option maxRecDepth 100000 in
theorem w_X10_net {l : Launch} {D : va_G} {cy : Nat → ClassId} {bs N : Nat} {sa : Nat → Nat} {kd len : Nat → Nat} {X Y : Nat → Int → Int} {R : Nat → Int → Option Nat} {i : Nat} {Z : Nat → Int → Int} {q : Nat} (hC : zWC N kd len R i) (a : Int) (ha : rI a) (b : Int) (hb : rI b) (hF : F_X10_net i Z q X Y R a b) : Met l yX10_net (.code yX10_net cX10_net 4 (some .int) :: zTB) (zRm 2 43) (zPc D cy bs sa N kd len X Y R [.ref (bs + (i)), .int (zI (a)), .int (zI (b))]) (zQi D cy bs N kd len (fun r st => r = rNet Z q (a) (b) ∧ st = (X, Y, R))) 0 0 (zA bs) := by
  refine zstart (by decide) (Nat.le_of_ble_eq_true rfl) ?_
  intro p e s m args below meth c ls C hE hH hr hlk hnm hl hargs
  have hF := hF hH.2.2.1 hH.2.2.2
  have hS : va_S (zA bs) s.heap s.heap [] := va_S.rf
  have hl : lv_has ls 4 [(0, .ref (bs + (i))), (1, .int (zI (a))), (2, .int (zI (b)))] := hl
  refine lv_aload_n C.1 C.2.1 dX10_net_0 rfl (lv_at hl 0 rfl) ?_
  refine zg10_0 C hH (zW_n hC) (zW_k hC) q_569 (zW_td hC).1 dX10_net_1 ?_
  refine lv_iload_n C.1 C.2.1 dX10_net_4 rfl (lv_at hl 1 rfl) ?_
  refine zgor (zrunV (As := [.int (zI (a))]) (rest := []) C hE hH hS hl.1 (c_X9_netAt (l := l) (zW_td hC).2 (a) ha) k_RX10_110 ⟨Nat.le_of_ble_eq_true rfl, Nat.le_of_ble_eq_true rfl⟩ (zTold_n0 (zW_td hC).2.1) (zTold_k0 (zW_td hC).2.1) rfl rfl rfl (Nat.le_of_ble_eq_true rfl) dX10_net_5 ⟨Nat.zero_le _, Nat.zero_le _⟩) hS (fun rq Xq Yq Rq H locs hq hH hS => ?_)
  obtain ⟨h92, h91⟩ := hq
  have h93 : Xq = X := congrArg (fun z => z.1) h92
  have h94 : Yq = Y := congrArg (fun z => z.2.1) h92
  have h95 : Rq = R := congrArg (fun z => z.2.2) h92
  rw [h93, h94, h95] at hH
  rw [h91]
  by_cases c1 : 0 ≤ (a) ∧ (a) < 2 ∧ (a) < X (i + 3) 0
  · rw [if_pos c1]
    have hF := hF.1 c1
    refine lv_astore_n (lv' := [(3, .ref (bs + (i + 7 + 8 * (a : Int).toNat))), (0, .ref (bs + (i))), (1, .int (zI (a))), (2, .int (zI (b)))]) C.1 C.2.1 dX10_net_8 rfl hl (by decide) rfl (fun ls hl => ?_)
    refine lv_aload_n C.1 C.2.1 dX10_net_9 rfl (lv_at hl 0 rfl) ?_
    refine lv_ifnonnull (tgt := 15) C.1 C.2.1 dX10_net_10 (by decide) ?_
    refine lv_iload_n C.1 C.2.1 dX10_net_15 rfl (lv_at hl 3 rfl) ?_
    by_cases c2_0 : b = 0
    · have hF := hF.1 c2_0
      refine zd_tabI C hb 60 (0) c2_0 dX10_net_16 (by decide) (by decide) rfl (by decide) ?_
      refine lv_aload_n C.1 C.2.1 dX10_net_60 rfl (lv_at hl 0 rfl) ?_
      refine zg6_0 C hH (zNet_n0 (zTd_nb (zW_td hC).2 c1.1 c1.2.1).1.2) (zNet_k0 (zTd_nb (zW_td hC).2 c1.1 c1.2.1).1.2) q_178 dX10_net_61 ?_
      exact zd_iret C hr hlk hH hS (hH.2.2.1 _ _) (⟨hF, rfl⟩) dX10_net_64
    · have hF := hF.2
      by_cases c2_1 : b = 1
      · have hF := hF.1 c2_1
        refine zd_tabI C hb 65 (1) c2_1 dX10_net_16 (by decide) (by decide) rfl (by decide) ?_
        refine lv_aload_n C.1 C.2.1 dX10_net_65 rfl (lv_at hl 0 rfl) ?_
        refine zg6_1 C hH (zNet_n0 (zTd_nb (zW_td hC).2 c1.1 c1.2.1).1.2) (zNet_k0 (zTd_nb (zW_td hC).2 c1.1 c1.2.1).1.2) q_181 dX10_net_66 ?_
        exact zd_iret C hr hlk hH hS (hH.2.2.1 _ _) (⟨hF, rfl⟩) dX10_net_69
      · have hF := hF.2
        by_cases c2_2 : b = 2
        · have hF := hF.1 c2_2
          refine zd_tabI C hb 70 (2) c2_2 dX10_net_16 (by decide) (by decide) rfl (by decide) ?_
          refine lv_aload_n C.1 C.2.1 dX10_net_70 rfl (lv_at hl 0 rfl) ?_
          refine zg6_2 C hH (zNet_n0 (zTd_nb (zW_td hC).2 c1.1 c1.2.1).1.2) (zNet_k0 (zTd_nb (zW_td hC).2 c1.1 c1.2.1).1.2) q_184 dX10_net_71 ?_
          exact zd_iret C hr hlk hH hS (hH.2.2.1 _ _) (⟨hF, rfl⟩) dX10_net_74
        · have hF := hF.2
          by_cases c2_3 : b = 3
          · have hF := hF.1 c2_3
            refine zd_tabI C hb 75 (3) c2_3 dX10_net_16 (by decide) (by decide) rfl (by decide) ?_
            refine lv_aload_n C.1 C.2.1 dX10_net_75 rfl (lv_at hl 0 rfl) ?_
            refine zg6_3 C hH (zNet_n0 (zTd_nb (zW_td hC).2 c1.1 c1.2.1).1.2) (zNet_k0 (zTd_nb (zW_td hC).2 c1.1 c1.2.1).1.2) q_186 dX10_net_76 ?_
            exact zd_iret C hr hlk hH hS (hH.2.2.1 _ _) (⟨hF, rfl⟩) dX10_net_79
          · have hF := hF.2
            by_cases c2_4 : b = 4
            · have hF := hF.1 c2_4
              refine zd_tabI C hb 80 (4) c2_4 dX10_net_16 (by decide) (by decide) rfl (by decide) ?_
              refine lv_aload_n C.1 C.2.1 dX10_net_80 rfl (lv_at hl 0 rfl) ?_
              refine zg6_4 C hH (zNet_n0 (zTd_nb (zW_td hC).2 c1.1 c1.2.1).1.2) (zNet_k0 (zTd_nb (zW_td hC).2 c1.1 c1.2.1).1.2) q_189 dX10_net_81 ?_
              exact zd_iret C hr hlk hH hS (hH.2.2.1 _ _) (⟨hF, rfl⟩) dX10_net_84
            · have hF := hF.2
              by_cases c2_5 : b = 5
              · have hF := hF.1 c2_5
                refine zd_tabI C hb 85 (5) c2_5 dX10_net_16 (by decide) (by decide) rfl (by decide) ?_
                refine lv_aload_n C.1 C.2.1 dX10_net_85 rfl (lv_at hl 0 rfl) ?_
                refine zg6_5 C hH (zNet_n0 (zTd_nb (zW_td hC).2 c1.1 c1.2.1).1.2) (zNet_k0 (zTd_nb (zW_td hC).2 c1.1 c1.2.1).1.2) q_192 dX10_net_86 ?_
                exact zd_iret C hr hlk hH hS (hH.2.2.1 _ _) (⟨hF, rfl⟩) dX10_net_89
              · have hF := hF.2
                by_cases c2_6 : b = 6
                · have hF := hF.1 c2_6
                  refine zd_tabI C hb 90 (6) c2_6 dX10_net_16 (by decide) (by decide) rfl (by decide) ?_
                  refine lv_aload_n C.1 C.2.1 dX10_net_90 rfl (lv_at hl 0 rfl) ?_
                  refine zg6_6 C hH (zNet_n0 (zTd_nb (zW_td hC).2 c1.1 c1.2.1).1.2) (zNet_k0 (zTd_nb (zW_td hC).2 c1.1 c1.2.1).1.2) q_196 dX10_net_91 ?_
                  exact zd_iret C hr hlk hH hS (hH.2.2.1 _ _) (⟨hF, rfl⟩) dX10_net_94
                · have hF := hF.2
                  have c2 := tsw_0_6 (b) c2_0 c2_1 c2_2 c2_3 c2_4 c2_5 c2_6
                  have hF := hF c2
                  refine zd_tabO C hb 95 c2 dX10_net_16 (by decide) ?_
                  refine lv_aload_n C.1 C.2.1 dX10_net_95 rfl (lv_at hl 0 rfl) ?_
                  refine lv_iload_n C.1 C.2.1 dX10_net_96 rfl (lv_at hl 3 rfl) ?_
                  obtain ⟨o3, hF⟩ := hF
                  refine zgoi (zrunS (As := [.ref (bs + (i + 7 + 8 * (a : Int).toNat)), .int (zI (b))]) (rest := []) C hE hH hS hl.1 (c_X10_isAccount (l := l) (zTd_nb (zW_td hC).2 c1.1 c1.2.1).1.2 (b) hb o3) k_RX10_137 ⟨Nat.le_of_ble_eq_true rfl, Nat.le_of_ble_eq_true rfl⟩ rfl (Nat.le_of_ble_eq_true rfl) dX10_net_97 ⟨Nat.zero_le _, Nat.zero_le _⟩) hS (fun rq Xq Yq Rq H locs hrq hq hH hS => ?_)
                  obtain ⟨h91, h92⟩ := hq
                  have h93 : Xq = X := congrArg (fun z => z.1) h92
                  have h94 : Yq = Y := congrArg (fun z => z.2.1) h92
                  have h95 : Rq = R := congrArg (fun z => z.2.2) h92
                  rw [h93, h94, h95] at hH
                  subst h91
                  refine zd_ifB_eq C 115 dX10_net_100 (by decide) (fun c4 => ?_) (fun c4 => ?_)
                  · have hF := hF.1 c4
                    refine zd_iconst C dX10_net_115 ?_
                    exact zd_iret C hr hlk hH hS (by decide) (⟨hF, rfl⟩) dX10_net_116
                  · have hF := hF.2 c4
                    refine lv_aload_n C.1 C.2.1 dX10_net_103 rfl (lv_at hl 0 rfl) ?_
                    refine zg6_7 C hH (zNet_n0 (zTd_nb (zW_td hC).2 c1.1 c1.2.1).1.2) (zNet_k0 (zTd_nb (zW_td hC).2 c1.1 c1.2.1).1.2) q_199 (zNet_r1 (zTd_nb (zW_td hC).2 c1.1 c1.2.1).1.2) dX10_net_104 ?_
                    refine lv_iload_n C.1 C.2.1 dX10_net_107 rfl (lv_at hl 3 rfl) ?_
                    refine zd_bipush C (by decide) dX10_net_108 ?_
                    refine zd_isub C dX10_net_110 ?_
                    rw [show zI (b - 10) = zI (zW (b - 10)) from (zI_zW _).symm]
                    obtain ⟨o5, hF⟩ := hF
                    refine zd_iald C hH (zNet_n1 (zTd_nb (zW_td hC).2 c1.1 c1.2.1).1.2) (zNet_k1 (zTd_nb (zW_td hC).2 c1.1 c1.2.1).1.2) o5.1 (by rw [zNet_l1 (zTd_nb (zW_td hC).2 c1.1 c1.2.1).1.2]; exact o5.2) (by rw [zNet_l1 (zTd_nb (zW_td hC).2 c1.1 c1.2.1).1.2]; decide) dX10_net_111 ?_
                    refine lv_goto (tgt := 116) C.1 C.2.1 dX10_net_112 (by decide) ?_
                    exact zd_iret C hr hlk hH hS (hH.2.2.1 _ _) (⟨hF, rfl⟩) dX10_net_116
  · rw [if_neg c1]
    have hF := hF.2 c1
    refine lv_astore_nN (lv' := [(3, .null), (0, .ref (bs + (i))), (1, .int (zI (a))), (2, .int (zI (b)))]) C.1 C.2.1 dX10_net_8 rfl hl (by decide) rfl (fun ls hl => ?_)
    refine lv_aload_nN C.1 C.2.1 dX10_net_9 rfl (lv_at hl 0 rfl) ?_
    refine lv_ifnonnullN C.1 C.2.1 dX10_net_10 ?_
    refine zd_iconst C dX10_net_13 ?_
    exact zd_iret C hr hlk hH hS (by decide) (⟨hF, rfl⟩) dX10_net_14
theorem v_X10_net {X Y : Nat → Int → Int} {R : Nat → Int → Option Nat} {i : Nat} {Z : Nat → Int → Int} {q : Nat} (a : Int) (ha : rI a) (b : Int) (hb : rI b) (hp : wcQ Z q X i) : F_X10_net i Z q X Y R a b := by
  unfold F_X10_net
  intro hX hY
  obtain ⟨hO, hT, hI⟩ := hp
  refine ⟨?_, ?_⟩
  · intro c1
    obtain ⟨a0, a1, a2⟩ := c1
    have a2 : a < X (i + 1 + 2) 0 := a2
    have t0 : X (i + 1 + 2) 0 = Z (q + 5) 0 := hT.2.2.1 0 (by decide) (by decide)
    obtain ⟨an, rfl⟩ := nat_of a0
    rw [show ((an : Nat) : Int).toNat = an by omega]
    have hN := hT.2.2.2.1 an (by omega)
    rw [show i + 1 + 6 + 8 * an = i + 7 + 8 * an by omega] at hN
    have nr := hN.2 a2
    rw [show 26 * (0 : Int) + 13 * (an : Int) = 13 * an by omega] at nr
    have n6 := nr.1 6 (by decide) (by decide)
    have ho := (hO.1.2.1 an a0 (by omega)).2.2.2.2.2.2.1
    have E : rNet Z q an b = (if mIn b 0 6 then Z (q + 6) (13 * an + b) else if mIn b 10 (10 + Z (q + 6) (13 * an + 6) - 1) then Z (q + 6) (13 * an + (7 + b - 10)) else -1) := by
      unfold rNet
      rw [if_pos (show mIs q Z 0 an = true from mIn_t.mpr (by omega))]
    refine ⟨?_, ?_⟩
    · intro c2
      rw [E, if_pos (mIn_t.mpr (by omega)), show b = 0 by omega]
      exact nr.1 0 (by decide) (by decide)
    refine ⟨?_, ?_⟩
    · intro c3
      rw [E, if_pos (mIn_t.mpr (by omega)), show b = 1 by omega]
      exact nr.1 1 (by decide) (by decide)
    refine ⟨?_, ?_⟩
    · intro c4
      rw [E, if_pos (mIn_t.mpr (by omega)), show b = 2 by omega]
      exact nr.1 2 (by decide) (by decide)
    refine ⟨?_, ?_⟩
    · intro c5
      rw [E, if_pos (mIn_t.mpr (by omega)), show b = 3 by omega]
      exact nr.1 3 (by decide) (by decide)
    refine ⟨?_, ?_⟩
    · intro c6
      rw [E, if_pos (mIn_t.mpr (by omega)), show b = 4 by omega]
      exact nr.1 4 (by decide) (by decide)
    refine ⟨?_, ?_⟩
    · intro c7
      rw [E, if_pos (mIn_t.mpr (by omega)), show b = 5 by omega]
      exact nr.1 5 (by decide) (by decide)
    refine ⟨?_, ?_⟩
    · intro c8
      rw [E, if_pos (mIn_t.mpr (by omega)), show b = 6 by omega]
      exact nr.1 6 (by decide) (by decide)
    intro c9
    refine ⟨?_, ?_⟩
    · rw [n6]
      omega
    refine ⟨?_, ?_⟩
    · intro c10
      rw [mIn_f] at c10
      rw [E, if_neg (show ¬ mIn b 0 6 = true by rw [mIn_t]; omega), if_neg (show ¬ mIn b 10 _ = true by rw [mIn_t]; omega)]
    intro c11
    rw [mIn_t] at c11
    have ew : zW (b - 10) = b - 10 := zI_toInt ⟨by omega, by omega⟩
    rw [ew]
    refine ⟨?_, ?_⟩
    · omega
    rw [E, if_neg (show ¬ mIn b 0 6 = true by rw [mIn_t]; omega), if_pos (mIn_t.mpr (by omega)), nr.2 (b - 10) (by omega) (by omega), show 13 * (an : Int) + (7 + (b - 10)) = 13 * an + (7 + b - 10) by omega]
  intro c12
  have t0 : X (i + 1 + 2) 0 = Z (q + 5) 0 := hT.2.2.1 0 (by decide) (by decide)
  have q0 := hO.1.1 0 (by decide) (by decide)
  unfold rNet
  rw [if_neg (show ¬ mIs q Z 0 a = true by show ¬ mIn a 0 (Z (q + 5) 0 - 1) = true; rw [mIn_t]; exact fun z => c12 ⟨z.1, by omega, by show a < X (i + 1 + 2) 0; omega⟩)]
theorem c_X10_net {l : Launch} {D : va_G} {cy : Nat → ClassId} {bs N : Nat} {sa : Nat → Nat} {kd len : Nat → Nat} {X Y : Nat → Int → Int} {R : Nat → Int → Option Nat} {i : Nat} {Z : Nat → Int → Int} {q : Nat} (hC : zWC N kd len R i) (a : Int) (ha : rI a) (b : Int) (hb : rI b) (hp : wcQ Z q X i) : Met l yX10_net (.code yX10_net cX10_net 4 (some .int) :: zTB) (zRm 2 43) (zPc D cy bs sa N kd len X Y R [.ref (bs + (i)), .int (zI (a)), .int (zI (b))]) (zQi D cy bs N kd len (fun r st => r = rNet Z q (a) (b) ∧ st = (X, Y, R))) 0 0 (zA bs) := w_X10_net hC a ha b hb (v_X10_net a ha b hb hp)
abbrev cX10_count : ByteArray := prog_1_method_6_code
def yX10_count : MethodName := ⟨RX10, "count", "(I)I"⟩
theorem dX10_count_0 : decode cX10_count 0 = .ok (.iload_n 1, 1) := by decide +kernel
theorem dX10_count_1 : decode cX10_count 1 = .ok (.ifCond .lt 20, 3) := by decide +kernel
theorem dX10_count_4 : decode cX10_count 4 = .ok (.iload_n 1, 1) := by decide +kernel
theorem dX10_count_5 : decode cX10_count 5 = .ok (.iconst 5, 1) := by decide +kernel
theorem dX10_count_6 : decode cX10_count 6 = .ok (.if_icmp .ge 15, 3) := by decide +kernel
theorem dX10_count_9 : decode cX10_count 9 = .ok (.aload_n 0, 1) := by decide +kernel
theorem dX10_count_10 : decode cX10_count 10 = .ok (.getfield 10, 3) := by decide +kernel
theorem dX10_count_13 : decode cX10_count 13 = .ok (.getfield 102, 3) := by decide +kernel
theorem dX10_count_16 : decode cX10_count 16 = .ok (.iload_n 1, 1) := by decide +kernel
theorem dX10_count_17 : decode cX10_count 17 = .ok (.iaload, 1) := by decide +kernel
theorem dX10_count_18 : decode cX10_count 18 = .ok (.goto 5, 3) := by decide +kernel
theorem dX10_count_21 : decode cX10_count 21 = .ok (.bipush (-2), 2) := by decide +kernel
theorem dX10_count_23 : decode cX10_count 23 = .ok (.ireturn, 1) := by decide +kernel
theorem q_288 : Cond.fieldLink RX10 102 RX9 "counts" "[I" ∈ zTB := zmem 288 (by decide +kernel) rfl
def F_X10_count (i : Nat) (Z : Nat → Int → Int) (q : Nat) (X Y : Nat → Int → Int) (R : Nat → Int → Option Nat) (a : Int) : Prop := (∀ i j, rI (X i j)) → (∀ i j, rL (Y i j)) → ((a < 0) → ((-2) = (if mIn (a) 0 4 then Z (q + 5) (a) else -2))) ∧ ((¬ (a < 0)) → (((5 ≤ a) → ((-2) = (if mIn (a) 0 4 then Z (q + 5) (a) else -2))) ∧ ((¬ (5 ≤ a)) → ((0 ≤ a ∧ a < 5) ∧ (X (i + 3) (a) = (if mIn (a) 0 4 then Z (q + 5) (a) else -2))))))
set_option maxHeartbeats 4000000 in
set_option maxRecDepth 100000 in
theorem w_X10_count {l : Launch} {D : va_G} {cy : Nat → ClassId} {bs N : Nat} {sa : Nat → Nat} {kd len : Nat → Nat} {X Y : Nat → Int → Int} {R : Nat → Int → Option Nat} {i : Nat} {Z : Nat → Int → Int} {q : Nat} (hC : zWC N kd len R i) (a : Int) (ha : rI a) (hF : F_X10_count i Z q X Y R a) : Met l yX10_count (.code yX10_count cX10_count 2 (some .int) :: zTB) (zRm 0 0) (zPc D cy bs sa N kd len X Y R [.ref (bs + (i)), .int (zI (a))]) (zQi D cy bs N kd len (fun r st => r = (if mIn (a) 0 4 then Z (q + 5) (a) else -2) ∧ st = (X, Y, R))) 0 0 (zA bs) := by
  refine zstart (by decide) (Nat.le_of_ble_eq_true rfl) ?_
  intro p e s m args below meth c ls C hE hH hr hlk hnm hl hargs
  have hF := hF hH.2.2.1 hH.2.2.2
  have hS : va_S (zA bs) s.heap s.heap [] := va_S.rf
  have hl : lv_has ls 2 [(0, .ref (bs + (i))), (1, .int (zI (a)))] := hl
  refine lv_iload_n C.1 C.2.1 dX10_count_0 rfl (lv_at hl 1 rfl) ?_
  refine zd_if_lt C ha 21 dX10_count_1 (by decide) (fun c1 => ?_) (fun c1 => ?_)
  · have hF := hF.1 c1
    refine zd_bipush C (by decide) dX10_count_21 ?_
    exact zd_iret C hr hlk hH hS (by decide) (⟨hF, rfl⟩) dX10_count_23
  · have hF := hF.2 c1
    refine lv_iload_n C.1 C.2.1 dX10_count_4 rfl (lv_at hl 1 rfl) ?_
    refine zd_iconst C dX10_count_5 ?_
    refine zd_icmp_ge C ha (by decide) 21 dX10_count_6 (by decide) (fun c2 => ?_) (fun c2 => ?_)
    · have hF := hF.1 c2
      refine zd_bipush C (by decide) dX10_count_21 ?_
      exact zd_iret C hr hlk hH hS (by decide) (⟨hF, rfl⟩) dX10_count_23
    · have hF := hF.2 c2
      refine lv_aload_n C.1 C.2.1 dX10_count_9 rfl (lv_at hl 0 rfl) ?_
      refine zg10_0 C hH (zW_n hC) (zW_k hC) q_569 (zW_td hC).1 dX10_count_10 ?_
      refine zg9_4 C hH (zTold_n0 (zW_td hC).2.1) (zTold_k0 (zW_td hC).2.1) q_288 (zTold_r2 (zW_td hC).2.1) dX10_count_13 ?_
      refine lv_iload_n C.1 C.2.1 dX10_count_16 rfl (lv_at hl 1 rfl) ?_
      obtain ⟨o3, hF⟩ := hF
      refine zd_iald C hH (zTold_n2 (zW_td hC).2.1) (zTold_k2 (zW_td hC).2.1) o3.1 (by rw [zTold_l2 (zW_td hC).2.1]; exact o3.2) (by rw [zTold_l2 (zW_td hC).2.1]; decide) dX10_count_17 ?_
      refine lv_goto (tgt := 23) C.1 C.2.1 dX10_count_18 (by decide) ?_
      exact zd_iret C hr hlk hH hS (hH.2.2.1 _ _) (⟨hF, rfl⟩) dX10_count_23
theorem v_X10_count {X Y : Nat → Int → Int} {R : Nat → Int → Option Nat} {i : Nat} {Z : Nat → Int → Int} {q : Nat} (a : Int) (ha : rI a) (hp : wcQ Z q X i) : F_X10_count i Z q X Y R a := by
  unfold F_X10_count
  intro hX hY
  obtain ⟨hO, hT, hI⟩ := hp
  refine ⟨?_, ?_⟩
  · intro c1
    rw [if_neg (show ¬ mIn a 0 4 = true by rw [mIn_t]; omega)]
  intro c2
  refine ⟨?_, ?_⟩
  · intro c3
    rw [if_neg (show ¬ mIn a 0 4 = true by rw [mIn_t]; omega)]
  intro c4
  refine ⟨?_, ?_⟩
  · first | omega | exact ⟨by omega, by omega⟩ | decide | assumption | exact ⟨by omega, by omega, by omega⟩ | exact ⟨by decide, by decide⟩
  rw [if_pos (mIn_t.mpr (by omega))]
  have g := hT.2.2.1 a (by omega) (by omega)
  rw [show 5 * (0 : Int) + a = a by omega] at g
  exact g
theorem c_X10_count {l : Launch} {D : va_G} {cy : Nat → ClassId} {bs N : Nat} {sa : Nat → Nat} {kd len : Nat → Nat} {X Y : Nat → Int → Int} {R : Nat → Int → Option Nat} {i : Nat} {Z : Nat → Int → Int} {q : Nat} (hC : zWC N kd len R i) (a : Int) (ha : rI a) (hp : wcQ Z q X i) : Met l yX10_count (.code yX10_count cX10_count 2 (some .int) :: zTB) (zRm 0 0) (zPc D cy bs sa N kd len X Y R [.ref (bs + (i)), .int (zI (a))]) (zQi D cy bs N kd len (fun r st => r = (if mIn (a) 0 4 then Z (q + 5) (a) else -2) ∧ st = (X, Y, R))) 0 0 (zA bs) := w_X10_count hC a ha (v_X10_count a ha hp)
abbrev cX10_fault : ByteArray := prog_1_method_5_code
def yX10_fault : MethodName := ⟨RX10, "fault", "(I)I"⟩
theorem dX10_fault_0 : decode cX10_fault 0 = .ok (.iload_n 1, 1) := by decide +kernel
theorem dX10_fault_1 : decode cX10_fault 1 = .ok (.ifCond .ne 11, 3) := by decide +kernel
theorem dX10_fault_4 : decode cX10_fault 4 = .ok (.aload_n 0, 1) := by decide +kernel
theorem dX10_fault_5 : decode cX10_fault 5 = .ok (.getfield 10, 3) := by decide +kernel
theorem dX10_fault_8 : decode cX10_fault 8 = .ok (.getfield 82, 3) := by decide +kernel
theorem dX10_fault_11 : decode cX10_fault 11 = .ok (.ireturn, 1) := by decide +kernel
theorem dX10_fault_12 : decode cX10_fault 12 = .ok (.iload_n 1, 1) := by decide +kernel
theorem dX10_fault_13 : decode cX10_fault 13 = .ok (.iconst 1, 1) := by decide +kernel
theorem dX10_fault_14 : decode cX10_fault 14 = .ok (.if_icmp .ne 13, 3) := by decide +kernel
theorem dX10_fault_17 : decode cX10_fault 17 = .ok (.aload_n 0, 1) := by decide +kernel
theorem dX10_fault_18 : decode cX10_fault 18 = .ok (.getfield 10, 3) := by decide +kernel
theorem dX10_fault_21 : decode cX10_fault 21 = .ok (.getfield 85, 3) := by decide +kernel
theorem dX10_fault_24 : decode cX10_fault 24 = .ok (.goto 4, 3) := by decide +kernel
theorem dX10_fault_27 : decode cX10_fault 27 = .ok (.iconst (-1), 1) := by decide +kernel
theorem dX10_fault_28 : decode cX10_fault 28 = .ok (.ireturn, 1) := by decide +kernel
theorem q_286 : Cond.fieldLink RX10 85 RX9 "faultPlace" "I" ∈ zTB := zmem 286 (by decide +kernel) rfl
theorem q_284 : Cond.fieldLink RX10 82 RX9 "fault" "I" ∈ zTB := zmem 284 (by decide +kernel) rfl
def F_X10_fault (i : Nat) (Z : Nat → Int → Int) (q : Nat) (X Y : Nat → Int → Int) (R : Nat → Int → Option Nat) (a : Int) : Prop := (∀ i j, rI (X i j)) → (∀ i j, rL (Y i j)) → ((¬ a = 0) → (((¬ a = 1) → ((-1) = rFault Z q (a))) ∧ ((¬ (¬ a = 1)) → (X (i + 1) 3 = rFault Z q (a))))) ∧ ((¬ (¬ a = 0)) → (X (i + 1) 2 = rFault Z q (a)))
set_option maxHeartbeats 4000000 in
set_option maxRecDepth 100000 in
theorem w_X10_fault {l : Launch} {D : va_G} {cy : Nat → ClassId} {bs N : Nat} {sa : Nat → Nat} {kd len : Nat → Nat} {X Y : Nat → Int → Int} {R : Nat → Int → Option Nat} {i : Nat} {Z : Nat → Int → Int} {q : Nat} (hC : zWC N kd len R i) (a : Int) (ha : rI a) (hF : F_X10_fault i Z q X Y R a) : Met l yX10_fault (.code yX10_fault cX10_fault 2 (some .int) :: zTB) (zRm 0 0) (zPc D cy bs sa N kd len X Y R [.ref (bs + (i)), .int (zI (a))]) (zQi D cy bs N kd len (fun r st => r = rFault Z q (a) ∧ st = (X, Y, R))) 0 0 (zA bs) := by
  refine zstart (by decide) (Nat.le_of_ble_eq_true rfl) ?_
  intro p e s m args below meth c ls C hE hH hr hlk hnm hl hargs
  have hF := hF hH.2.2.1 hH.2.2.2
  have hS : va_S (zA bs) s.heap s.heap [] := va_S.rf
  have hl : lv_has ls 2 [(0, .ref (bs + (i))), (1, .int (zI (a)))] := hl
  refine lv_iload_n C.1 C.2.1 dX10_fault_0 rfl (lv_at hl 1 rfl) ?_
  refine zd_if_ne C ha 12 dX10_fault_1 (by decide) (fun c1 => ?_) (fun c1 => ?_)
  · have hF := hF.1 c1
    refine lv_iload_n C.1 C.2.1 dX10_fault_12 rfl (lv_at hl 1 rfl) ?_
    refine zd_iconst C dX10_fault_13 ?_
    refine zd_icmp_ne C ha (by decide) 27 dX10_fault_14 (by decide) (fun c2 => ?_) (fun c2 => ?_)
    · have hF := hF.1 c2
      refine zd_iconst C dX10_fault_27 ?_
      exact zd_iret C hr hlk hH hS (by decide) (⟨hF, rfl⟩) dX10_fault_28
    · have hF := hF.2 c2
      refine lv_aload_n C.1 C.2.1 dX10_fault_17 rfl (lv_at hl 0 rfl) ?_
      refine zg10_0 C hH (zW_n hC) (zW_k hC) q_569 (zW_td hC).1 dX10_fault_18 ?_
      refine zg9_3 C hH (zTold_n0 (zW_td hC).2.1) (zTold_k0 (zW_td hC).2.1) q_286 dX10_fault_21 ?_
      refine lv_goto (tgt := 28) C.1 C.2.1 dX10_fault_24 (by decide) ?_
      exact zd_iret C hr hlk hH hS (hH.2.2.1 _ _) (⟨hF, rfl⟩) dX10_fault_28
  · have hF := hF.2 c1
    refine lv_aload_n C.1 C.2.1 dX10_fault_4 rfl (lv_at hl 0 rfl) ?_
    refine zg10_0 C hH (zW_n hC) (zW_k hC) q_569 (zW_td hC).1 dX10_fault_5 ?_
    refine zg9_2 C hH (zTold_n0 (zW_td hC).2.1) (zTold_k0 (zW_td hC).2.1) q_284 dX10_fault_8 ?_
    exact zd_iret C hr hlk hH hS (hH.2.2.1 _ _) (⟨hF, rfl⟩) dX10_fault_11
theorem v_X10_fault {X Y : Nat → Int → Int} {R : Nat → Int → Option Nat} {i : Nat} {Z : Nat → Int → Int} {q : Nat} (a : Int) (ha : rI a) (hp : wcQ Z q X i) : F_X10_fault i Z q X Y R a := by
  unfold F_X10_fault
  intro hX hY
  obtain ⟨hO, hT, hI⟩ := hp
  unfold rFault
  refine ⟨?_, ?_⟩
  · intro c1
    refine ⟨?_, ?_⟩
    · intro c2
      rw [if_neg c1, if_neg c2]
    intro c3
    rw [if_neg c1, if_pos (Classical.not_not.mp c3)]
    exact hT.1.2.2
  intro c4
  rw [if_pos (Classical.not_not.mp c4)]
  exact hT.1.2.1
theorem c_X10_fault {l : Launch} {D : va_G} {cy : Nat → ClassId} {bs N : Nat} {sa : Nat → Nat} {kd len : Nat → Nat} {X Y : Nat → Int → Int} {R : Nat → Int → Option Nat} {i : Nat} {Z : Nat → Int → Int} {q : Nat} (hC : zWC N kd len R i) (a : Int) (ha : rI a) (hp : wcQ Z q X i) : Met l yX10_fault (.code yX10_fault cX10_fault 2 (some .int) :: zTB) (zRm 0 0) (zPc D cy bs sa N kd len X Y R [.ref (bs + (i)), .int (zI (a))]) (zQi D cy bs N kd len (fun r st => r = rFault Z q (a) ∧ st = (X, Y, R))) 0 0 (zA bs) := w_X10_fault hC a ha (v_X10_fault a ha hp)
abbrev cX10_payPart : ByteArray := prog_1_method_11_code
def yX10_payPart : MethodName := ⟨RX10, "payPart", "(LWorkChains$Blocks;II)I"⟩
theorem dX10_payPart_0 : decode cX10_payPart 0 = .ok (.iload_n 2, 1) := by decide +kernel
theorem dX10_payPart_1 : decode cX10_payPart 1 = .ok (.bipush 10, 2) := by decide +kernel
theorem dX10_payPart_3 : decode cX10_payPart 3 = .ok (.if_icmp .lt 11, 3) := by decide +kernel
theorem dX10_payPart_6 : decode cX10_payPart 6 = .ok (.iload_n 2, 1) := by decide +kernel
theorem dX10_payPart_7 : decode cX10_payPart 7 = .ok (.bipush 10, 2) := by decide +kernel
theorem dX10_payPart_9 : decode cX10_payPart 9 = .ok (.irem, 1) := by decide +kernel
theorem dX10_payPart_10 : decode cX10_payPart 10 = .ok (.iconst 2, 1) := by decide +kernel
theorem dX10_payPart_11 : decode cX10_payPart 11 = .ok (.if_icmp .le 6, 3) := by decide +kernel
theorem dX10_payPart_14 : decode cX10_payPart 14 = .ok (.bipush (-2), 2) := by decide +kernel
theorem dX10_payPart_16 : decode cX10_payPart 16 = .ok (.ireturn, 1) := by decide +kernel
theorem dX10_payPart_17 : decode cX10_payPart 17 = .ok (.iload_n 2, 1) := by decide +kernel
theorem dX10_payPart_18 : decode cX10_payPart 18 = .ok (.bipush 10, 2) := by decide +kernel
theorem dX10_payPart_20 : decode cX10_payPart 20 = .ok (.idiv, 1) := by decide +kernel
theorem dX10_payPart_21 : decode cX10_payPart 21 = .ok (.iconst 1, 1) := by decide +kernel
theorem dX10_payPart_22 : decode cX10_payPart 22 = .ok (.isub, 1) := by decide +kernel
theorem dX10_payPart_23 : decode cX10_payPart 23 = .ok (.istore_n 3, 1) := by decide +kernel
theorem dX10_payPart_24 : decode cX10_payPart 24 = .ok (.iload_n 3, 1) := by decide +kernel
theorem dX10_payPart_25 : decode cX10_payPart 25 = .ok (.aload_n 0, 1) := by decide +kernel
theorem dX10_payPart_26 : decode cX10_payPart 26 = .ok (.getfield 166, 3) := by decide +kernel
theorem dX10_payPart_29 : decode cX10_payPart 29 = .ok (.iload_n 1, 1) := by decide +kernel
theorem dX10_payPart_30 : decode cX10_payPart 30 = .ok (.iaload, 1) := by decide +kernel
theorem dX10_payPart_31 : decode cX10_payPart 31 = .ok (.if_icmp .ge 16, 3) := by decide +kernel
theorem dX10_payPart_34 : decode cX10_payPart 34 = .ok (.aload_n 0, 1) := by decide +kernel
theorem dX10_payPart_35 : decode cX10_payPart 35 = .ok (.iload_n 1, 1) := by decide +kernel
theorem dX10_payPart_36 : decode cX10_payPart 36 = .ok (.iload_n 3, 1) := by decide +kernel
theorem dX10_payPart_37 : decode cX10_payPart 37 = .ok (.iload_n 2, 1) := by decide +kernel
theorem dX10_payPart_38 : decode cX10_payPart 38 = .ok (.bipush 10, 2) := by decide +kernel
theorem dX10_payPart_40 : decode cX10_payPart 40 = .ok (.irem, 1) := by decide +kernel
theorem dX10_payPart_41 : decode cX10_payPart 41 = .ok (.invokevirtual 173, 3) := by decide +kernel
theorem dX10_payPart_44 : decode cX10_payPart 44 = .ok (.goto 5, 3) := by decide +kernel
theorem dX10_payPart_47 : decode cX10_payPart 47 = .ok (.bipush (-2), 2) := by decide +kernel
theorem dX10_payPart_49 : decode cX10_payPart 49 = .ok (.ireturn, 1) := by decide +kernel
theorem q_239 : Cond.fieldLink RX10 166 RX0 "pays" "[I" ∈ zTB := zmem 239 (by decide +kernel) rfl
theorem q_858 : Cond.methodLink RX10 173 yX0_payPart ∈ zTB := zmem 858 (by decide +kernel) rfl
theorem k_RX10_173 : zLv RX10 173 RX0 yX0_payPart cX0_payPart 5 (some .int) 3 := ⟨⟨q_858, q_859, q_860, q_132, q_861⟩, rfl, ⟨by decide, by decide⟩, by decide +kernel⟩
def F_X10_payPart (j : Nat) (X Y : Nat → Int → Int) (R : Nat → Int → Option Nat) (b : Int) (g : Int) : Prop := (∀ i j, rI (X i j)) → (∀ i j, rL (Y i j)) → ((g < 10) → ((-2) = ppE X j (b) (g))) ∧ ((¬ (g < 10)) → (((((g).tmod (10)) ≤ 2) → ((0 ≤ b ∧ b < 15) ∧ ((rI (((g).tdiv (10)) - 1)) ∧ ((((X (j + 4) (b)) ≤ (((g).tdiv (10)) - 1)) → ((-2) = ppE X j (b) (g))) ∧ ((¬ ((X (j + 4) (b)) ≤ (((g).tdiv (10)) - 1))) → (((0 ≤ (b) ∧ (b) < 15) ∧ (0 ≤ ((((g).tdiv (10)) - 1)) ∧ ((((g).tdiv (10)) - 1)) < 3) ∧ 0 ≤ (((g).tmod (10))) ∧ (((g).tmod (10))) < 3) ∧ (rI (X (j + 5) (((b) * 3 + ((((g).tdiv (10)) - 1))) * 3 + (((g).tmod (10))))) → (X (j + 5) (((b) * 3 + ((((g).tdiv (10)) - 1))) * 3 + (((g).tmod (10)))) = ppE X j (b) (g))))))))) ∧ ((¬ (((g).tmod (10)) ≤ 2)) → ((-2) = ppE X j (b) (g)))))
set_option maxHeartbeats 4000000 in
set_option maxRecDepth 100000 in
theorem w_X10_payPart {l : Launch} {D : va_G} {cy : Nat → ClassId} {bs N : Nat} {sa : Nat → Nat} {kd len : Nat → Nat} {X Y : Nat → Int → Int} {R : Nat → Int → Option Nat} {j : Nat} (hb9 : zBlocks N kd len R j) (b : Int) (hb : rI b) (g : Int) (hg : rI g) (hF : F_X10_payPart j X Y R b g) : Met l yX10_payPart (.code yX10_payPart cX10_payPart 4 (some .int) :: zTB) (zRm 1 24) (zPc D cy bs sa N kd len X Y R [.ref (bs + (j)), .int (zI (b)), .int (zI (g))]) (zQi D cy bs N kd len (fun r st => r = ppE X j (b) (g) ∧ st = (X, Y, R))) 0 0 (zA bs) := by
  refine zstart (by decide) (Nat.le_of_ble_eq_true rfl) ?_
  intro p e s m args below meth c ls C hE hH hr hlk hnm hl hargs
  have hF := hF hH.2.2.1 hH.2.2.2
  have hS : va_S (zA bs) s.heap s.heap [] := va_S.rf
  have hl : lv_has ls 4 [(0, .ref (bs + (j))), (1, .int (zI (b))), (2, .int (zI (g)))] := hl
  refine lv_iload_n C.1 C.2.1 dX10_payPart_0 rfl (lv_at hl 2 rfl) ?_
  refine zd_bipush C (by decide) dX10_payPart_1 ?_
  refine zd_icmp_lt C hg (by decide) 14 dX10_payPart_3 (by decide) (fun c1 => ?_) (fun c1 => ?_)
  · have hF := hF.1 c1
    refine zd_bipush C (by decide) dX10_payPart_14 ?_
    exact zd_iret C hr hlk hH hS (by decide) (⟨hF, rfl⟩) dX10_payPart_16
  · have hF := hF.2 c1
    refine lv_iload_n C.1 C.2.1 dX10_payPart_6 rfl (lv_at hl 2 rfl) ?_
    refine zd_bipush C (by decide) dX10_payPart_7 ?_
    refine zd_irem C hg (by decide) (by decide) (by decide) dX10_payPart_9 ?_
    refine zd_iconst C dX10_payPart_10 ?_
    refine zd_icmp_le C (tmod_rI hg (show (10 : Int) ≠ -1 from (by decide))) (by decide) 17 dX10_payPart_11 (by decide) (fun c2 => ?_) (fun c2 => ?_)
    · have hF := hF.1 c2
      refine lv_iload_n C.1 C.2.1 dX10_payPart_17 rfl (lv_at hl 2 rfl) ?_
      refine zd_bipush C (by decide) dX10_payPart_18 ?_
      refine zd_idiv C hg (by decide) (by decide) (by decide) dX10_payPart_20 ?_
      refine zd_iconst C dX10_payPart_21 ?_
      refine zd_isub C dX10_payPart_22 ?_
      refine lv_istore_n (lv' := [(3, .int (zI (((g).tdiv (10)) - 1))), (0, .ref (bs + (j))), (1, .int (zI (b))), (2, .int (zI (g)))]) C.1 C.2.1 dX10_payPart_23 rfl hl (by decide) rfl (fun ls hl => ?_)
      refine lv_iload_n C.1 C.2.1 dX10_payPart_24 rfl (lv_at hl 0 rfl) ?_
      refine lv_aload_n C.1 C.2.1 dX10_payPart_25 rfl (lv_at hl 1 rfl) ?_
      refine zg0_4 C hH (zBlocks_n0 hb9) (zBlocks_k0 hb9) q_239 (zBlocks_r4 hb9) dX10_payPart_26 ?_
      refine lv_iload_n C.1 C.2.1 dX10_payPart_29 rfl (lv_at hl 2 rfl) ?_
      obtain ⟨o3, hF⟩ := hF
      refine zd_iald C hH (zBlocks_n4 hb9) (zBlocks_k4 hb9) o3.1 (by rw [zBlocks_l4 hb9]; exact o3.2) (by rw [zBlocks_l4 hb9]; decide) dX10_payPart_30 ?_
      obtain ⟨o5, hF⟩ := hF
      refine zd_icmp_ge C o5 (hH.2.2.1 _ _) 47 dX10_payPart_31 (by decide) (fun c4 => ?_) (fun c4 => ?_)
      · have hF := hF.1 c4
        refine zd_bipush C (by decide) dX10_payPart_47 ?_
        exact zd_iret C hr hlk hH hS (by decide) (⟨hF, rfl⟩) dX10_payPart_49
      · have hF := hF.2 c4
        refine lv_aload_n C.1 C.2.1 dX10_payPart_34 rfl (lv_at hl 1 rfl) ?_
        refine lv_iload_n C.1 C.2.1 dX10_payPart_35 rfl (lv_at hl 2 rfl) ?_
        refine lv_iload_n C.1 C.2.1 dX10_payPart_36 rfl (lv_at hl 0 rfl) ?_
        refine lv_iload_n C.1 C.2.1 dX10_payPart_37 rfl (lv_at hl 3 rfl) ?_
        refine zd_bipush C (by decide) dX10_payPart_38 ?_
        refine zd_irem C hg (by decide) (by decide) (by decide) dX10_payPart_40 ?_
        obtain ⟨o6, hF⟩ := hF
        refine zgoi (zrunV (As := [.int (zI (b)), .int (zI (((g).tdiv (10)) - 1)), .int (zI ((g).tmod (10)))]) (rest := []) C hE hH hS hl.1 (c_X0_payPart (l := l) hb9 (b) hb (((g).tdiv (10)) - 1) o5 ((g).tmod (10)) (tmod_rI hg (show (10 : Int) ≠ -1 from (by decide))) o6) k_RX10_173 ⟨Nat.le_of_ble_eq_true rfl, Nat.le_of_ble_eq_true rfl⟩ (zBlocks_n0 hb9) (zBlocks_k0 hb9) rfl rfl rfl (Nat.le_of_ble_eq_true rfl) dX10_payPart_41 ⟨Nat.zero_le _, Nat.zero_le _⟩) hS (fun rq Xq Yq Rq H locs hrq hq hH hS => ?_)
        obtain ⟨h91, h92⟩ := hq
        have h93 : Xq = X := congrArg (fun z => z.1) h92
        have h94 : Yq = Y := congrArg (fun z => z.2.1) h92
        have h95 : Rq = R := congrArg (fun z => z.2.2) h92
        rw [h93, h94, h95] at hH
        subst h91
        have hr7 := hrq
        have hF := hF hr7
        refine lv_goto (tgt := 49) C.1 C.2.1 dX10_payPart_44 (by decide) ?_
        exact zd_iret C hr hlk hH hS hr7 (⟨hF, rfl⟩) dX10_payPart_49
    · have hF := hF.2 c2
      refine zd_bipush C (by decide) dX10_payPart_14 ?_
      exact zd_iret C hr hlk hH hS (by decide) (⟨hF, rfl⟩) dX10_payPart_16
theorem v_X10_payPart {X Y : Nat → Int → Int} {R : Nat → Int → Option Nat} {j : Nat} (b : Int) (hb : rI b) (g : Int) (hg : rI g) (hp : (0 ≤ b ∧ b < 15) ∧ 0 ≤ X (j + 4) b ∧ X (j + 4) b ≤ 3) : F_X10_payPart j X Y R b g := by
  unfold F_X10_payPart
  intro hX hY
  obtain ⟨hb15, p0, p3⟩ := hp
  have m0 : 0 ≤ g → 0 ≤ g.tmod 10 := fun h => Int.tmod_nonneg _ h
  have dv : 0 ≤ g → g.tdiv 10 = g / 10 := fun h => Int.tdiv_eq_ediv_of_nonneg h
  have d9 := tdiv_rI hg (b := 10) (by decide)
  unfold ppE
  refine ⟨?_, ?_⟩
  · intro c1
    rw [if_neg (by omega)]
  intro c2
  have m0 := m0 (by omega)
  have dv := dv (by omega)
  have dd : 1 ≤ g / 10 := by omega
  refine ⟨?_, ?_⟩
  · intro c3
    refine ⟨?_, ?_⟩
    · first | omega | exact ⟨by omega, by omega⟩ | decide | assumption | exact ⟨by omega, by omega, by omega⟩ | exact ⟨by decide, by decide⟩
    refine ⟨?_, ?_⟩
    · rw [dv]
      have := d9.2
      exact ⟨by omega, by omega⟩
    refine ⟨?_, ?_⟩
    · intro c4
      rw [if_neg (by omega)]
    intro c5
    refine ⟨?_, ?_⟩
    · exact ⟨hb15, by omega, by omega⟩
    intro _
    rw [if_pos ⟨by omega, by omega, by omega⟩]
  intro c6
  rw [if_neg (by omega)]
theorem c_X10_payPart {l : Launch} {D : va_G} {cy : Nat → ClassId} {bs N : Nat} {sa : Nat → Nat} {kd len : Nat → Nat} {X Y : Nat → Int → Int} {R : Nat → Int → Option Nat} {j : Nat} (hb9 : zBlocks N kd len R j) (b : Int) (hb : rI b) (g : Int) (hg : rI g) (hp : (0 ≤ b ∧ b < 15) ∧ 0 ≤ X (j + 4) b ∧ X (j + 4) b ≤ 3) : Met l yX10_payPart (.code yX10_payPart cX10_payPart 4 (some .int) :: zTB) (zRm 1 24) (zPc D cy bs sa N kd len X Y R [.ref (bs + (j)), .int (zI (b)), .int (zI (g))]) (zQi D cy bs N kd len (fun r st => r = ppE X j (b) (g) ∧ st = (X, Y, R))) 0 0 (zA bs) := w_X10_payPart hb9 b hb g hg (v_X10_payPart b hb g hg hp)
abbrev cX10_block : ByteArray := prog_1_method_10_code
def yX10_block : MethodName := ⟨RX10, "block", "(III)I"⟩
theorem dX10_block_0 : decode cX10_block 0 = .ok (.aload_n 0, 1) := by decide +kernel
theorem dX10_block_1 : decode cX10_block 1 = .ok (.getfield 10, 3) := by decide +kernel
theorem dX10_block_4 : decode cX10_block 4 = .ok (.iload_n 1, 1) := by decide +kernel
theorem dX10_block_5 : decode cX10_block 5 = .ok (.invokevirtual 144, 3) := by decide +kernel
theorem dX10_block_8 : decode cX10_block 8 = .ok (.astore 4, 2) := by decide +kernel
theorem dX10_block_10 : decode cX10_block 10 = .ok (.aload 4, 2) := by decide +kernel
theorem dX10_block_12 : decode cX10_block 12 = .ok (.ifnonnull 6, 3) := by decide +kernel
theorem dX10_block_15 : decode cX10_block 15 = .ok (.bipush (-2), 2) := by decide +kernel
theorem dX10_block_17 : decode cX10_block 17 = .ok (.ireturn, 1) := by decide +kernel
theorem dX10_block_18 : decode cX10_block 18 = .ok (.iload_n 2, 1) := by decide +kernel
theorem dX10_block_19 : decode cX10_block 19 = .ok (.iconst (-1), 1) := by decide +kernel
theorem dX10_block_20 : decode cX10_block 20 = .ok (.if_icmp .ne 18, 3) := by decide +kernel
theorem dX10_block_23 : decode cX10_block 23 = .ok (.iload_n 3, 1) := by decide +kernel
theorem dX10_block_24 : decode cX10_block 24 = .ok (.ifCond .ne 11, 3) := by decide +kernel
theorem dX10_block_27 : decode cX10_block 27 = .ok (.aload 4, 2) := by decide +kernel
theorem dX10_block_29 : decode cX10_block 29 = .ok (.getfield 148, 3) := by decide +kernel
theorem dX10_block_32 : decode cX10_block 32 = .ok (.goto 5, 3) := by decide +kernel
theorem dX10_block_35 : decode cX10_block 35 = .ok (.bipush (-2), 2) := by decide +kernel
theorem dX10_block_37 : decode cX10_block 37 = .ok (.ireturn, 1) := by decide +kernel
theorem dX10_block_38 : decode cX10_block 38 = .ok (.aload 4, 2) := by decide +kernel
theorem dX10_block_40 : decode cX10_block 40 = .ok (.iload_n 2, 1) := by decide +kernel
theorem dX10_block_41 : decode cX10_block 41 = .ok (.invokevirtual 153, 3) := by decide +kernel
theorem dX10_block_44 : decode cX10_block 44 = .ok (.ifCond .ne 6, 3) := by decide +kernel
theorem dX10_block_47 : decode cX10_block 47 = .ok (.bipush (-2), 2) := by decide +kernel
theorem dX10_block_49 : decode cX10_block 49 = .ok (.ireturn, 1) := by decide +kernel
theorem dX10_block_50 : decode cX10_block 50 = .ok (.iload_n 3, 1) := by decide +kernel
theorem dX10_block_51 : decode cX10_block 51 = .ok (.tableswitch 85 0 3 #[29, 45, 53, 69], 29) := by decide +kernel
theorem dX10_block_80 : decode cX10_block 80 = .ok (.iload_n 2, 1) := by decide +kernel
theorem dX10_block_81 : decode cX10_block 81 = .ok (.ifCond .ne 7, 3) := by decide +kernel
theorem dX10_block_84 : decode cX10_block 84 = .ok (.iconst (-1), 1) := by decide +kernel
theorem dX10_block_85 : decode cX10_block 85 = .ok (.goto 10, 3) := by decide +kernel
theorem dX10_block_88 : decode cX10_block 88 = .ok (.aload 4, 2) := by decide +kernel
theorem dX10_block_90 : decode cX10_block 90 = .ok (.getfield 157, 3) := by decide +kernel
theorem dX10_block_93 : decode cX10_block 93 = .ok (.iload_n 2, 1) := by decide +kernel
theorem dX10_block_94 : decode cX10_block 94 = .ok (.iaload, 1) := by decide +kernel
theorem dX10_block_95 : decode cX10_block 95 = .ok (.ireturn, 1) := by decide +kernel
theorem dX10_block_96 : decode cX10_block 96 = .ok (.aload 4, 2) := by decide +kernel
theorem dX10_block_98 : decode cX10_block 98 = .ok (.getfield 160, 3) := by decide +kernel
theorem dX10_block_101 : decode cX10_block 101 = .ok (.iload_n 2, 1) := by decide +kernel
theorem dX10_block_102 : decode cX10_block 102 = .ok (.iaload, 1) := by decide +kernel
theorem dX10_block_103 : decode cX10_block 103 = .ok (.ireturn, 1) := by decide +kernel
theorem dX10_block_104 : decode cX10_block 104 = .ok (.iload_n 2, 1) := by decide +kernel
theorem dX10_block_105 : decode cX10_block 105 = .ok (.ifCond .ne 7, 3) := by decide +kernel
theorem dX10_block_108 : decode cX10_block 108 = .ok (.iconst (-1), 1) := by decide +kernel
theorem dX10_block_109 : decode cX10_block 109 = .ok (.goto 10, 3) := by decide +kernel
theorem dX10_block_112 : decode cX10_block 112 = .ok (.aload 4, 2) := by decide +kernel
theorem dX10_block_114 : decode cX10_block 114 = .ok (.getfield 163, 3) := by decide +kernel
theorem dX10_block_117 : decode cX10_block 117 = .ok (.iload_n 2, 1) := by decide +kernel
theorem dX10_block_118 : decode cX10_block 118 = .ok (.iaload, 1) := by decide +kernel
theorem dX10_block_119 : decode cX10_block 119 = .ok (.ireturn, 1) := by decide +kernel
theorem dX10_block_120 : decode cX10_block 120 = .ok (.iload_n 2, 1) := by decide +kernel
theorem dX10_block_121 : decode cX10_block 121 = .ok (.ifCond .ne 7, 3) := by decide +kernel
theorem dX10_block_124 : decode cX10_block 124 = .ok (.iconst (-1), 1) := by decide +kernel
theorem dX10_block_125 : decode cX10_block 125 = .ok (.goto 10, 3) := by decide +kernel
theorem dX10_block_128 : decode cX10_block 128 = .ok (.aload 4, 2) := by decide +kernel
theorem dX10_block_130 : decode cX10_block 130 = .ok (.getfield 166, 3) := by decide +kernel
theorem dX10_block_133 : decode cX10_block 133 = .ok (.iload_n 2, 1) := by decide +kernel
theorem dX10_block_134 : decode cX10_block 134 = .ok (.iaload, 1) := by decide +kernel
theorem dX10_block_135 : decode cX10_block 135 = .ok (.ireturn, 1) := by decide +kernel
theorem dX10_block_136 : decode cX10_block 136 = .ok (.aload 4, 2) := by decide +kernel
theorem dX10_block_138 : decode cX10_block 138 = .ok (.iload_n 2, 1) := by decide +kernel
theorem dX10_block_139 : decode cX10_block 139 = .ok (.iload_n 3, 1) := by decide +kernel
theorem dX10_block_140 : decode cX10_block 140 = .ok (.invokestatic 169, 3) := by decide +kernel
theorem dX10_block_143 : decode cX10_block 143 = .ok (.ireturn, 1) := by decide +kernel
theorem q_230 : Cond.fieldLink RX10 157 RX0 "parent" "[I" ∈ zTB := zmem 230 (by decide +kernel) rfl
theorem q_233 : Cond.fieldLink RX10 160 RX0 "time" "[I" ∈ zTB := zmem 233 (by decide +kernel) rfl
theorem q_236 : Cond.fieldLink RX10 163 RX0 "maker" "[I" ∈ zTB := zmem 236 (by decide +kernel) rfl
theorem q_856 : Cond.static yX10_payPart ∈ zTB := zmem 856 (by decide +kernel) rfl
theorem q_857 : Cond.code yX10_payPart cX10_payPart 4 (some .int) ∈ zTB := zmem 857 (by decide +kernel) rfl
theorem q_855 : Cond.methodLink RX10 169 yX10_payPart ∈ zTB := zmem 855 (by decide +kernel) rfl
theorem k_RX10_169 : zLs RX10 169 yX10_payPart cX10_payPart 4 (some .int) 3 := ⟨⟨q_855, q_856, q_129, q_857⟩, ⟨by decide, by decide⟩, by decide +kernel⟩
theorem q_227 : Cond.fieldLink RX10 148 RX0 "last" "I" ∈ zTB := zmem 227 (by decide +kernel) rfl
def F_X10_block (i : Nat) (Z : Nat → Int → Int) (q : Nat) (X Y : Nat → Int → Int) (R : Nat → Int → Option Nat) (a : Int) (b : Int) (g : Int) : Prop := (∀ i j, rI (X i j)) → (∀ i j, rL (Y i j)) → ((0 ≤ (a) ∧ (a) < 2 ∧ (a) < X (i + 3) 1) → (((¬ b = (-1)) → ((((decide (0 ≤ (b) ∧ (b) ≤ X (i + 9 + 8 * (a : Int).toNat) 0 ∧ (b) < 15)) = true) → ((g = 0 → (((¬ b = 0) → ((0 ≤ b ∧ b < 15) ∧ (X (i + 9 + 8 * (a : Int).toNat + 1) (b) = rBlock Z q (a) (b) (g)))) ∧ ((¬ (¬ b = 0)) → ((-1) = rBlock Z q (a) (b) (g))))) ∧ (g = 1 → ((0 ≤ b ∧ b < 15) ∧ (X (i + 9 + 8 * (a : Int).toNat + 2) (b) = rBlock Z q (a) (b) (g)))) ∧ (g = 2 → (((¬ b = 0) → ((0 ≤ b ∧ b < 15) ∧ (X (i + 9 + 8 * (a : Int).toNat + 3) (b) = rBlock Z q (a) (b) (g)))) ∧ ((¬ (¬ b = 0)) → ((-1) = rBlock Z q (a) (b) (g))))) ∧ (g = 3 → (((¬ b = 0) → ((0 ≤ b ∧ b < 15) ∧ (X (i + 9 + 8 * (a : Int).toNat + 4) (b) = rBlock Z q (a) (b) (g)))) ∧ ((¬ (¬ b = 0)) → ((-1) = rBlock Z q (a) (b) (g))))) ∧ ((g < 0 ∨ 3 < g) → (((0 ≤ (b) ∧ (b) < 15) ∧ 0 ≤ X ((i + 9 + 8 * (a : Int).toNat) + 4) (b) ∧ X ((i + 9 + 8 * (a : Int).toNat) + 4) (b) ≤ 3) ∧ (rI (ppE X (i + 9 + 8 * (a : Int).toNat) (b) (g)) → (ppE X (i + 9 + 8 * (a : Int).toNat) (b) (g) = rBlock Z q (a) (b) (g))))))) ∧ (((decide (0 ≤ (b) ∧ (b) ≤ X (i + 9 + 8 * (a : Int).toNat) 0 ∧ (b) < 15)) = false) → ((-2) = rBlock Z q (a) (b) (g))))) ∧ ((¬ (¬ b = (-1))) → (((¬ g = 0) → ((-2) = rBlock Z q (a) (b) (g))) ∧ ((¬ (¬ g = 0)) → (X (i + 9 + 8 * (a : Int).toNat) 0 = rBlock Z q (a) (b) (g))))))) ∧ (¬ (0 ≤ (a) ∧ (a) < 2 ∧ (a) < X (i + 3) 1) → ((-2) = rBlock Z q (a) (b) (g)))
set_option maxHeartbeats 4000000 in
set_option maxRecDepth 100000 in
theorem w_X10_block {l : Launch} {D : va_G} {cy : Nat → ClassId} {bs N : Nat} {sa : Nat → Nat} {kd len : Nat → Nat} {X Y : Nat → Int → Int} {R : Nat → Int → Option Nat} {i : Nat} {Z : Nat → Int → Int} {q : Nat} (hC : zWC N kd len R i) (a : Int) (ha : rI a) (b : Int) (hb : rI b) (g : Int) (hg : rI g) (hF : F_X10_block i Z q X Y R a b g) : Met l yX10_block (.code yX10_block cX10_block 5 (some .int) :: zTB) (zRm 2 47) (zPc D cy bs sa N kd len X Y R [.ref (bs + (i)), .int (zI (a)), .int (zI (b)), .int (zI (g))]) (zQi D cy bs N kd len (fun r st => r = rBlock Z q (a) (b) (g) ∧ st = (X, Y, R))) 0 0 (zA bs) := by
  refine zstart (by decide) (Nat.le_of_ble_eq_true rfl) ?_
  intro p e s m args below meth c ls C hE hH hr hlk hnm hl hargs
  have hF := hF hH.2.2.1 hH.2.2.2
  have hS : va_S (zA bs) s.heap s.heap [] := va_S.rf
  have hl : lv_has ls 5 [(0, .ref (bs + (i))), (1, .int (zI (a))), (2, .int (zI (b))), (3, .int (zI (g)))] := hl
  refine lv_aload_n C.1 C.2.1 dX10_block_0 rfl (lv_at hl 0 rfl) ?_
  refine zg10_0 C hH (zW_n hC) (zW_k hC) q_569 (zW_td hC).1 dX10_block_1 ?_
  refine lv_iload_n C.1 C.2.1 dX10_block_4 rfl (lv_at hl 1 rfl) ?_
  refine zgor (zrunV (As := [.int (zI (a))]) (rest := []) C hE hH hS hl.1 (c_X9_blocksAt (l := l) (zW_td hC).2 (a) ha) k_RX10_144 ⟨Nat.le_of_ble_eq_true rfl, Nat.le_of_ble_eq_true rfl⟩ (zTold_n0 (zW_td hC).2.1) (zTold_k0 (zW_td hC).2.1) rfl rfl rfl (Nat.le_of_ble_eq_true rfl) dX10_block_5 ⟨Nat.zero_le _, Nat.zero_le _⟩) hS (fun rq Xq Yq Rq H locs hq hH hS => ?_)
  obtain ⟨h92, h91⟩ := hq
  have h93 : Xq = X := congrArg (fun z => z.1) h92
  have h94 : Yq = Y := congrArg (fun z => z.2.1) h92
  have h95 : Rq = R := congrArg (fun z => z.2.2) h92
  rw [h93, h94, h95] at hH
  rw [h91]
  by_cases c1 : 0 ≤ (a) ∧ (a) < 2 ∧ (a) < X (i + 3) 1
  · rw [if_pos c1]
    have hF := hF.1 c1
    refine lv_astore (lv' := [(4, .ref (bs + (i + 9 + 8 * (a : Int).toNat))), (0, .ref (bs + (i))), (1, .int (zI (a))), (2, .int (zI (b))), (3, .int (zI (g)))]) C.1 C.2.1 dX10_block_8 hl (by decide) rfl (fun ls hl => ?_)
    refine lv_aload C.1 C.2.1 dX10_block_10 (lv_at hl 0 rfl) ?_
    refine lv_ifnonnull (tgt := 18) C.1 C.2.1 dX10_block_12 (by decide) ?_
    refine lv_iload_n C.1 C.2.1 dX10_block_18 rfl (lv_at hl 3 rfl) ?_
    refine zd_iconst C dX10_block_19 ?_
    refine zd_icmp_ne C hb (by decide) 38 dX10_block_20 (by decide) (fun c2 => ?_) (fun c2 => ?_)
    · have hF := hF.1 c2
      refine lv_aload C.1 C.2.1 dX10_block_38 (lv_at hl 0 rfl) ?_
      refine lv_iload_n C.1 C.2.1 dX10_block_40 rfl (lv_at hl 3 rfl) ?_
      refine zgoi (zrunV (As := [.int (zI (b))]) (rest := []) C hE hH hS hl.1 (c_X0_has (l := l) (zTd_nb (zW_td hC).2 c1.1 c1.2.1).2.2 (b) hb) k_RX10_153 ⟨Nat.le_of_ble_eq_true rfl, Nat.le_of_ble_eq_true rfl⟩ (zBlocks_n0 (zTd_nb (zW_td hC).2 c1.1 c1.2.1).2.2) (zBlocks_k0 (zTd_nb (zW_td hC).2 c1.1 c1.2.1).2.2) rfl rfl rfl (Nat.le_of_ble_eq_true rfl) dX10_block_41 ⟨Nat.zero_le _, Nat.zero_le _⟩) hS (fun rq Xq Yq Rq H locs hrq hq hH hS => ?_)
      obtain ⟨h91, h92⟩ := hq
      have h93 : Xq = X := congrArg (fun z => z.1) h92
      have h94 : Yq = Y := congrArg (fun z => z.2.1) h92
      have h95 : Rq = R := congrArg (fun z => z.2.2) h92
      rw [h93, h94, h95] at hH
      subst h91
      refine zd_ifB_ne C 50 dX10_block_44 (by decide) (fun c3 => ?_) (fun c3 => ?_)
      · have hF := hF.1 c3
        refine lv_iload_n C.1 C.2.1 dX10_block_50 rfl (lv_at hl 4 rfl) ?_
        by_cases c4_0 : g = 0
        · have hF := hF.1 c4_0
          refine zd_tabI C hg 80 (0) c4_0 dX10_block_51 (by decide) (by decide) rfl (by decide) ?_
          refine lv_iload_n C.1 C.2.1 dX10_block_80 rfl (lv_at hl 3 rfl) ?_
          refine zd_if_ne C hb 88 dX10_block_81 (by decide) (fun c5 => ?_) (fun c5 => ?_)
          · have hF := hF.1 c5
            refine lv_aload C.1 C.2.1 dX10_block_88 (lv_at hl 0 rfl) ?_
            refine zg0_1 C hH (zBlocks_n0 (zTd_nb (zW_td hC).2 c1.1 c1.2.1).2.2) (zBlocks_k0 (zTd_nb (zW_td hC).2 c1.1 c1.2.1).2.2) q_230 (zBlocks_r1 (zTd_nb (zW_td hC).2 c1.1 c1.2.1).2.2) dX10_block_90 ?_
            refine lv_iload_n C.1 C.2.1 dX10_block_93 rfl (lv_at hl 3 rfl) ?_
            obtain ⟨o6, hF⟩ := hF
            refine zd_iald C hH (zBlocks_n1 (zTd_nb (zW_td hC).2 c1.1 c1.2.1).2.2) (zBlocks_k1 (zTd_nb (zW_td hC).2 c1.1 c1.2.1).2.2) o6.1 (by rw [zBlocks_l1 (zTd_nb (zW_td hC).2 c1.1 c1.2.1).2.2]; exact o6.2) (by rw [zBlocks_l1 (zTd_nb (zW_td hC).2 c1.1 c1.2.1).2.2]; decide) dX10_block_94 ?_
            exact zd_iret C hr hlk hH hS (hH.2.2.1 _ _) (⟨hF, rfl⟩) dX10_block_95
          · have hF := hF.2 c5
            refine zd_iconst C dX10_block_84 ?_
            refine lv_goto (tgt := 95) C.1 C.2.1 dX10_block_85 (by decide) ?_
            exact zd_iret C hr hlk hH hS (by decide) (⟨hF, rfl⟩) dX10_block_95
        · have hF := hF.2
          by_cases c4_1 : g = 1
          · have hF := hF.1 c4_1
            refine zd_tabI C hg 96 (1) c4_1 dX10_block_51 (by decide) (by decide) rfl (by decide) ?_
            refine lv_aload C.1 C.2.1 dX10_block_96 (lv_at hl 0 rfl) ?_
            refine zg0_2 C hH (zBlocks_n0 (zTd_nb (zW_td hC).2 c1.1 c1.2.1).2.2) (zBlocks_k0 (zTd_nb (zW_td hC).2 c1.1 c1.2.1).2.2) q_233 (zBlocks_r2 (zTd_nb (zW_td hC).2 c1.1 c1.2.1).2.2) dX10_block_98 ?_
            refine lv_iload_n C.1 C.2.1 dX10_block_101 rfl (lv_at hl 3 rfl) ?_
            obtain ⟨o7, hF⟩ := hF
            refine zd_iald C hH (zBlocks_n2 (zTd_nb (zW_td hC).2 c1.1 c1.2.1).2.2) (zBlocks_k2 (zTd_nb (zW_td hC).2 c1.1 c1.2.1).2.2) o7.1 (by rw [zBlocks_l2 (zTd_nb (zW_td hC).2 c1.1 c1.2.1).2.2]; exact o7.2) (by rw [zBlocks_l2 (zTd_nb (zW_td hC).2 c1.1 c1.2.1).2.2]; decide) dX10_block_102 ?_
            exact zd_iret C hr hlk hH hS (hH.2.2.1 _ _) (⟨hF, rfl⟩) dX10_block_103
          · have hF := hF.2
            by_cases c4_2 : g = 2
            · have hF := hF.1 c4_2
              refine zd_tabI C hg 104 (2) c4_2 dX10_block_51 (by decide) (by decide) rfl (by decide) ?_
              refine lv_iload_n C.1 C.2.1 dX10_block_104 rfl (lv_at hl 3 rfl) ?_
              refine zd_if_ne C hb 112 dX10_block_105 (by decide) (fun c8 => ?_) (fun c8 => ?_)
              · have hF := hF.1 c8
                refine lv_aload C.1 C.2.1 dX10_block_112 (lv_at hl 0 rfl) ?_
                refine zg0_3 C hH (zBlocks_n0 (zTd_nb (zW_td hC).2 c1.1 c1.2.1).2.2) (zBlocks_k0 (zTd_nb (zW_td hC).2 c1.1 c1.2.1).2.2) q_236 (zBlocks_r3 (zTd_nb (zW_td hC).2 c1.1 c1.2.1).2.2) dX10_block_114 ?_
                refine lv_iload_n C.1 C.2.1 dX10_block_117 rfl (lv_at hl 3 rfl) ?_
                obtain ⟨o9, hF⟩ := hF
                refine zd_iald C hH (zBlocks_n3 (zTd_nb (zW_td hC).2 c1.1 c1.2.1).2.2) (zBlocks_k3 (zTd_nb (zW_td hC).2 c1.1 c1.2.1).2.2) o9.1 (by rw [zBlocks_l3 (zTd_nb (zW_td hC).2 c1.1 c1.2.1).2.2]; exact o9.2) (by rw [zBlocks_l3 (zTd_nb (zW_td hC).2 c1.1 c1.2.1).2.2]; decide) dX10_block_118 ?_
                exact zd_iret C hr hlk hH hS (hH.2.2.1 _ _) (⟨hF, rfl⟩) dX10_block_119
              · have hF := hF.2 c8
                refine zd_iconst C dX10_block_108 ?_
                refine lv_goto (tgt := 119) C.1 C.2.1 dX10_block_109 (by decide) ?_
                exact zd_iret C hr hlk hH hS (by decide) (⟨hF, rfl⟩) dX10_block_119
            · have hF := hF.2
              by_cases c4_3 : g = 3
              · have hF := hF.1 c4_3
                refine zd_tabI C hg 120 (3) c4_3 dX10_block_51 (by decide) (by decide) rfl (by decide) ?_
                refine lv_iload_n C.1 C.2.1 dX10_block_120 rfl (lv_at hl 3 rfl) ?_
                refine zd_if_ne C hb 128 dX10_block_121 (by decide) (fun c10 => ?_) (fun c10 => ?_)
                · have hF := hF.1 c10
                  refine lv_aload C.1 C.2.1 dX10_block_128 (lv_at hl 0 rfl) ?_
                  refine zg0_4 C hH (zBlocks_n0 (zTd_nb (zW_td hC).2 c1.1 c1.2.1).2.2) (zBlocks_k0 (zTd_nb (zW_td hC).2 c1.1 c1.2.1).2.2) q_239 (zBlocks_r4 (zTd_nb (zW_td hC).2 c1.1 c1.2.1).2.2) dX10_block_130 ?_
                  refine lv_iload_n C.1 C.2.1 dX10_block_133 rfl (lv_at hl 3 rfl) ?_
                  obtain ⟨o11, hF⟩ := hF
                  refine zd_iald C hH (zBlocks_n4 (zTd_nb (zW_td hC).2 c1.1 c1.2.1).2.2) (zBlocks_k4 (zTd_nb (zW_td hC).2 c1.1 c1.2.1).2.2) o11.1 (by rw [zBlocks_l4 (zTd_nb (zW_td hC).2 c1.1 c1.2.1).2.2]; exact o11.2) (by rw [zBlocks_l4 (zTd_nb (zW_td hC).2 c1.1 c1.2.1).2.2]; decide) dX10_block_134 ?_
                  exact zd_iret C hr hlk hH hS (hH.2.2.1 _ _) (⟨hF, rfl⟩) dX10_block_135
                · have hF := hF.2 c10
                  refine zd_iconst C dX10_block_124 ?_
                  refine lv_goto (tgt := 135) C.1 C.2.1 dX10_block_125 (by decide) ?_
                  exact zd_iret C hr hlk hH hS (by decide) (⟨hF, rfl⟩) dX10_block_135
              · have hF := hF.2
                have c4 := tsw_0_3 (g) c4_0 c4_1 c4_2 c4_3
                have hF := hF c4
                refine zd_tabO C hg 136 c4 dX10_block_51 (by decide) ?_
                refine lv_aload C.1 C.2.1 dX10_block_136 (lv_at hl 0 rfl) ?_
                refine lv_iload_n C.1 C.2.1 dX10_block_138 rfl (lv_at hl 3 rfl) ?_
                refine lv_iload_n C.1 C.2.1 dX10_block_139 rfl (lv_at hl 4 rfl) ?_
                obtain ⟨o12, hF⟩ := hF
                refine zgoi (zrunS (As := [.ref (bs + (i + 9 + 8 * (a : Int).toNat)), .int (zI (b)), .int (zI (g))]) (rest := []) C hE hH hS hl.1 (c_X10_payPart (l := l) (zTd_nb (zW_td hC).2 c1.1 c1.2.1).2.2 (b) hb (g) hg o12) k_RX10_169 ⟨Nat.le_of_ble_eq_true rfl, Nat.le_of_ble_eq_true rfl⟩ rfl (Nat.le_of_ble_eq_true rfl) dX10_block_140 ⟨Nat.zero_le _, Nat.zero_le _⟩) hS (fun rq Xq Yq Rq H locs hrq hq hH hS => ?_)
                obtain ⟨h91, h92⟩ := hq
                have h93 : Xq = X := congrArg (fun z => z.1) h92
                have h94 : Yq = Y := congrArg (fun z => z.2.1) h92
                have h95 : Rq = R := congrArg (fun z => z.2.2) h92
                rw [h93, h94, h95] at hH
                subst h91
                have hr13 := hrq
                have hF := hF hr13
                exact zd_iret C hr hlk hH hS hr13 (⟨hF, rfl⟩) dX10_block_143
      · have hF := hF.2 c3
        refine zd_bipush C (by decide) dX10_block_47 ?_
        exact zd_iret C hr hlk hH hS (by decide) (⟨hF, rfl⟩) dX10_block_49
    · have hF := hF.2 c2
      refine lv_iload_n C.1 C.2.1 dX10_block_23 rfl (lv_at hl 4 rfl) ?_
      refine zd_if_ne C hg 35 dX10_block_24 (by decide) (fun c14 => ?_) (fun c14 => ?_)
      · have hF := hF.1 c14
        refine zd_bipush C (by decide) dX10_block_35 ?_
        exact zd_iret C hr hlk hH hS (by decide) (⟨hF, rfl⟩) dX10_block_37
      · have hF := hF.2 c14
        refine lv_aload C.1 C.2.1 dX10_block_27 (lv_at hl 0 rfl) ?_
        refine zg0_0 C hH (zBlocks_n0 (zTd_nb (zW_td hC).2 c1.1 c1.2.1).2.2) (zBlocks_k0 (zTd_nb (zW_td hC).2 c1.1 c1.2.1).2.2) q_227 dX10_block_29 ?_
        refine lv_goto (tgt := 37) C.1 C.2.1 dX10_block_32 (by decide) ?_
        exact zd_iret C hr hlk hH hS (hH.2.2.1 _ _) (⟨hF, rfl⟩) dX10_block_37
  · rw [if_neg c1]
    have hF := hF.2 c1
    refine lv_astoreN (lv' := [(4, .null), (0, .ref (bs + (i))), (1, .int (zI (a))), (2, .int (zI (b))), (3, .int (zI (g)))]) C.1 C.2.1 dX10_block_8 hl (by decide) rfl (fun ls hl => ?_)
    refine lv_aloadN C.1 C.2.1 dX10_block_10 (lv_at hl 0 rfl) ?_
    refine lv_ifnonnullN C.1 C.2.1 dX10_block_12 ?_
    refine zd_bipush C (by decide) dX10_block_15 ?_
    exact zd_iret C hr hlk hH hS (by decide) (⟨hF, rfl⟩) dX10_block_17
theorem v_X10_block {X Y : Nat → Int → Int} {R : Nat → Int → Option Nat} {i : Nat} {Z : Nat → Int → Int} {q : Nat} (a : Int) (ha : rI a) (b : Int) (hb : rI b) (g : Int) (hg : rI g) (hp : wcQ Z q X i) : F_X10_block i Z q X Y R a b g := by
  unfold F_X10_block
  intro hX hY
  obtain ⟨hO, hT, hI⟩ := hp
  refine ⟨?_, ?_⟩
  · intro c1
    obtain ⟨a0, a1, a2⟩ := c1
    have a2 : a < X (i + 1 + 2) 1 := a2
    have t1 : X (i + 1 + 2) 1 = Z (q + 5) 1 := hT.2.2.1 1 (by decide) (by decide)
    obtain ⟨an, rfl⟩ := nat_of a0
    rw [show ((an : Nat) : Int).toNat = an by omega]
    have hB := hT.2.2.2.2.1 an (by omega)
    rw [show i + 1 + 8 + 8 * an = i + 9 + 8 * an by omega] at hB
    have br := hB.2 a2
    rw [show 366 * (0 : Int) + 183 * (an : Int) = 183 * an by omega] at br
    have hv := hz_v (n := 0) (f := 0) hO.1 a0 (show (an : Int) < Z (q + 5) 1 by omega)
    have hbr := hz_bR (n := 0) (f := 0) hB.1 br
    have e27 := hz_27 (Z := Z) (q := q) (n := 0) (c := (an : Int)) (f := 0)
    have e0 := hbr.1
    have em : mIs q Z 1 an = true := mIn_t.mpr (by omega)
    refine ⟨?_, ?_⟩
    · intro c2
      refine ⟨?_, ?_⟩
      · intro c3
        have c3 := of_decide_eq_true c3
        have E : rBlock Z q an b g = bkOf (hZ Z q 0 an 0) q b g := by
          unfold rBlock
          rw [if_pos em, if_neg c2, if_pos (mIn_t.mpr (show 0 ≤ b ∧ b ≤ qN Z q an by omega))]
        have bk := fun h => hbr.2.2 b h (show b < hZ Z q 0 an 0 q 27 by omega)
        refine ⟨?_, ?_⟩
        · intro c4
          refine ⟨?_, ?_⟩
          · intro c5
            refine ⟨?_, ?_⟩
            · first | omega | exact ⟨by omega, by omega⟩ | decide | assumption | exact ⟨by omega, by omega, by omega⟩ | exact ⟨by decide, by decide⟩
            rw [E]
            unfold bkOf
            rw [if_pos (mIn_t.mpr (by omega)), if_neg (by omega), if_neg c5, c4]
            exact (bk (by omega)).1
          intro c6
          rw [E]
          unfold bkOf
          rw [if_pos (mIn_t.mpr (by omega)), if_neg (by omega), if_pos (Classical.not_not.mp c6)]
        refine ⟨?_, ?_⟩
        · intro c7
          refine ⟨?_, ?_⟩
          · first | omega | exact ⟨by omega, by omega⟩ | decide | assumption | exact ⟨by omega, by omega, by omega⟩ | exact ⟨by decide, by decide⟩
          rw [E]
          unfold bkOf
          rw [if_pos (mIn_t.mpr (by omega)), if_pos c7]
          unfold mTim
          by_cases z : b = 0
          · rw [if_pos z, z]
            exact hbr.2.1
          · rw [if_neg z]
            exact (bk (by omega)).2.1
        refine ⟨?_, ?_⟩
        · intro c8
          refine ⟨?_, ?_⟩
          · intro c9
            refine ⟨?_, ?_⟩
            · first | omega | exact ⟨by omega, by omega⟩ | decide | assumption | exact ⟨by omega, by omega, by omega⟩ | exact ⟨by decide, by decide⟩
            rw [E]
            unfold bkOf
            rw [if_pos (mIn_t.mpr (by omega)), if_neg (by omega), if_neg c9, c8]
            exact (bk (by omega)).2.2.1
          intro c10
          rw [E]
          unfold bkOf
          rw [if_pos (mIn_t.mpr (by omega)), if_neg (by omega), if_pos (Classical.not_not.mp c10)]
        refine ⟨?_, ?_⟩
        · intro c11
          refine ⟨?_, ?_⟩
          · intro c12
            refine ⟨?_, ?_⟩
            · first | omega | exact ⟨by omega, by omega⟩ | decide | assumption | exact ⟨by omega, by omega, by omega⟩ | exact ⟨by decide, by decide⟩
            rw [E]
            unfold bkOf
            rw [if_pos (mIn_t.mpr (by omega)), if_neg (by omega), if_neg c12, c11]
            exact (bk (by omega)).2.2.2.1
          intro c13
          rw [E]
          unfold bkOf
          rw [if_pos (mIn_t.mpr (by omega)), if_neg (by omega), if_pos (Classical.not_not.mp c13)]
        intro c14
        refine ⟨?_, ?_⟩
        · refine ⟨by omega, ?_⟩
          by_cases z : b = 0
          · have z4 : X (i + 9 + 8 * an + 4) 0 = 0 := hB.1.2.2
            rw [z, z4]
            decide
          · rw [(bk (by omega)).2.2.2.1]
            obtain ⟨bn, rfl⟩ := nat_of (show 0 ≤ b by omega)
            have g9 := (hv.2.2.2 bn (by omega) (by omega)).1
            exact ⟨g9.1, g9.2.1⟩
        intro _
        rw [E]
        unfold bkOf
        rw [if_neg (show ¬ mIn g 0 3 = true by rw [mIn_t]; omega)]
        unfold ppE
        by_cases g10 : 10 ≤ g
        · have m0 : 0 ≤ g.tmod 10 := Int.tmod_nonneg _ (by omega)
          have dv : g.tdiv 10 = g / 10 := Int.tdiv_eq_ediv_of_nonneg (by omega)
          have d1 : 1 ≤ g / 10 := by omega
          by_cases z : b = 0
          · subst z
            have z4 : X (i + 9 + 8 * an + 4) 0 = 0 := hB.1.2.2
            rw [if_neg (by omega), if_neg (by omega)]
          · have g9 := bk (by omega)
            rw [g9.2.2.2.1]
            by_cases c : g.tmod 10 < 3 ∧ g.tdiv 10 - 1 < mC (hZ Z q 0 an 0) q b 3
            · rw [if_pos ⟨g10, c.1, c.2⟩, if_pos ⟨g10, c.1, by omega, c.2⟩]
              exact g9.2.2.2.2 (g.tdiv 10 - 1) (g.tmod 10) (by omega) c.2 m0 c.1
            · rw [if_neg (fun z => c ⟨z.2.1, z.2.2⟩), if_neg (fun z => c ⟨z.2.1, z.2.2.2⟩)]
        · rw [if_neg (fun z => g10 z.1), if_neg (fun z => g10 z.1)]
      intro c15
      have c15 := of_decide_eq_false c15
      unfold rBlock
      rw [if_pos em, if_neg c2, if_neg (show ¬ mIn b 0 (qN Z q an) = true by rw [mIn_t]; have := hv.1; omega)]
    intro c16
    refine ⟨?_, ?_⟩
    · intro c17
      unfold rBlock
      rw [if_pos em, if_pos (Classical.not_not.mp c16), if_neg c17]
    intro c18
    unfold rBlock
    rw [if_pos em, if_pos (Classical.not_not.mp c16), if_pos (Classical.not_not.mp c18)]
    exact br.1
  intro c19
  have t1 : X (i + 1 + 2) 1 = Z (q + 5) 1 := hT.2.2.1 1 (by decide) (by decide)
  have q0 := hO.1.1 1 (by decide) (by decide)
  unfold rBlock
  rw [if_neg (show ¬ mIs q Z 1 a = true by show ¬ mIn a 0 (Z (q + 5) 1 - 1) = true; rw [mIn_t]; exact fun z => c19 ⟨z.1, by omega, by show a < X (i + 1 + 2) 1; omega⟩)]
theorem c_X10_block {l : Launch} {D : va_G} {cy : Nat → ClassId} {bs N : Nat} {sa : Nat → Nat} {kd len : Nat → Nat} {X Y : Nat → Int → Int} {R : Nat → Int → Option Nat} {i : Nat} {Z : Nat → Int → Int} {q : Nat} (hC : zWC N kd len R i) (a : Int) (ha : rI a) (b : Int) (hb : rI b) (g : Int) (hg : rI g) (hp : wcQ Z q X i) : Met l yX10_block (.code yX10_block cX10_block 5 (some .int) :: zTB) (zRm 2 47) (zPc D cy bs sa N kd len X Y R [.ref (bs + (i)), .int (zI (a)), .int (zI (b)), .int (zI (g))]) (zQi D cy bs N kd len (fun r st => r = rBlock Z q (a) (b) (g) ∧ st = (X, Y, R))) 0 0 (zA bs) := w_X10_block hC a ha b hb g hg (v_X10_block a ha b hb g hg hp)
abbrev cX10_rowPart : ByteArray := prog_1_method_15_code
def yX10_rowPart : MethodName := ⟨RX10, "rowPart", "(LWorkChains$Rows;II)I"⟩
theorem dX10_rowPart_0 : decode cX10_rowPart 0 = .ok (.aload_n 0, 1) := by decide +kernel
theorem dX10_rowPart_1 : decode cX10_rowPart 1 = .ok (.ifnonnull 6, 3) := by decide +kernel
theorem dX10_rowPart_4 : decode cX10_rowPart 4 = .ok (.bipush (-2), 2) := by decide +kernel
theorem dX10_rowPart_6 : decode cX10_rowPart 6 = .ok (.ireturn, 1) := by decide +kernel
theorem dX10_rowPart_7 : decode cX10_rowPart 7 = .ok (.iload_n 1, 1) := by decide +kernel
theorem dX10_rowPart_8 : decode cX10_rowPart 8 = .ok (.iconst (-1), 1) := by decide +kernel
theorem dX10_rowPart_9 : decode cX10_rowPart 9 = .ok (.if_icmp .ne 17, 3) := by decide +kernel
theorem dX10_rowPart_12 : decode cX10_rowPart 12 = .ok (.iload_n 2, 1) := by decide +kernel
theorem dX10_rowPart_13 : decode cX10_rowPart 13 = .ok (.ifCond .ne 10, 3) := by decide +kernel
theorem dX10_rowPart_16 : decode cX10_rowPart 16 = .ok (.aload_n 0, 1) := by decide +kernel
theorem dX10_rowPart_17 : decode cX10_rowPart 17 = .ok (.getfield 184, 3) := by decide +kernel
theorem dX10_rowPart_20 : decode cX10_rowPart 20 = .ok (.goto 5, 3) := by decide +kernel
theorem dX10_rowPart_23 : decode cX10_rowPart 23 = .ok (.bipush (-2), 2) := by decide +kernel
theorem dX10_rowPart_25 : decode cX10_rowPart 25 = .ok (.ireturn, 1) := by decide +kernel
theorem dX10_rowPart_26 : decode cX10_rowPart 26 = .ok (.iload_n 1, 1) := by decide +kernel
theorem dX10_rowPart_27 : decode cX10_rowPart 27 = .ok (.ifCond .lt 27, 3) := by decide +kernel
theorem dX10_rowPart_30 : decode cX10_rowPart 30 = .ok (.iload_n 1, 1) := by decide +kernel
theorem dX10_rowPart_31 : decode cX10_rowPart 31 = .ok (.aload_n 0, 1) := by decide +kernel
theorem dX10_rowPart_32 : decode cX10_rowPart 32 = .ok (.getfield 184, 3) := by decide +kernel
theorem dX10_rowPart_35 : decode cX10_rowPart 35 = .ok (.if_icmp .ge 19, 3) := by decide +kernel
theorem dX10_rowPart_38 : decode cX10_rowPart 38 = .ok (.iload_n 2, 1) := by decide +kernel
theorem dX10_rowPart_39 : decode cX10_rowPart 39 = .ok (.ifCond .lt 15, 3) := by decide +kernel
theorem dX10_rowPart_42 : decode cX10_rowPart 42 = .ok (.iload_n 2, 1) := by decide +kernel
theorem dX10_rowPart_43 : decode cX10_rowPart 43 = .ok (.aload_n 0, 1) := by decide +kernel
theorem dX10_rowPart_44 : decode cX10_rowPart 44 = .ok (.getfield 189, 3) := by decide +kernel
theorem dX10_rowPart_47 : decode cX10_rowPart 47 = .ok (.if_icmp .ge 7, 3) := by decide +kernel
theorem dX10_rowPart_50 : decode cX10_rowPart 50 = .ok (.iconst 1, 1) := by decide +kernel
theorem dX10_rowPart_51 : decode cX10_rowPart 51 = .ok (.goto 4, 3) := by decide +kernel
theorem dX10_rowPart_54 : decode cX10_rowPart 54 = .ok (.iconst 0, 1) := by decide +kernel
theorem dX10_rowPart_55 : decode cX10_rowPart 55 = .ok (.istore_n 3, 1) := by decide +kernel
theorem dX10_rowPart_56 : decode cX10_rowPart 56 = .ok (.iload_n 3, 1) := by decide +kernel
theorem dX10_rowPart_57 : decode cX10_rowPart 57 = .ok (.ifCond .eq 12, 3) := by decide +kernel
theorem dX10_rowPart_60 : decode cX10_rowPart 60 = .ok (.aload_n 0, 1) := by decide +kernel
theorem dX10_rowPart_61 : decode cX10_rowPart 61 = .ok (.iload_n 1, 1) := by decide +kernel
theorem dX10_rowPart_62 : decode cX10_rowPart 62 = .ok (.iload_n 2, 1) := by decide +kernel
theorem dX10_rowPart_63 : decode cX10_rowPart 63 = .ok (.invokevirtual 192, 3) := by decide +kernel
theorem dX10_rowPart_66 : decode cX10_rowPart 66 = .ok (.goto 5, 3) := by decide +kernel
theorem dX10_rowPart_69 : decode cX10_rowPart 69 = .ok (.bipush (-2), 2) := by decide +kernel
theorem dX10_rowPart_71 : decode cX10_rowPart 71 = .ok (.ireturn, 1) := by decide +kernel
theorem q_260 : Cond.fieldLink RX10 189 RX8 "width" "I" ∈ zTB := zmem 260 (by decide +kernel) rfl
theorem q_873 : Cond.methodLink RX10 192 yX8_part ∈ zTB := zmem 873 (by decide +kernel) rfl
theorem k_RX10_192 : zLv RX10 192 RX8 yX8_part cX8_part 4 (some .int) 2 := ⟨⟨q_873, q_874, q_875, q_133, q_876⟩, rfl, ⟨by decide, by decide⟩, by decide +kernel⟩
def F_X10_rowPart (j nn : Nat) (X Y : Nat → Int → Int) (R : Nat → Int → Option Nat) (b : Int) (g : Int) : Prop := (∀ i j, rI (X i j)) → (∀ i j, rL (Y i j)) → ((¬ b = (-1)) → (((b < 0) → ((-2) = rpE X j (b) (g))) ∧ ((¬ (b < 0)) → ((((X (j) 2) ≤ b) → ((-2) = rpE X j (b) (g))) ∧ ((¬ ((X (j) 2) ≤ b)) → (((g < 0) → ((-2) = rpE X j (b) (g))) ∧ ((¬ (g < 0)) → ((((X (j) 0) ≤ g) → ((-2) = rpE X j (b) (g))) ∧ ((¬ ((X (j) 0) ≤ g)) → ((oRw X j nn ∧ (0 ≤ b ∧ b < X j 1) ∧ 0 ≤ g ∧ g < X j 0) ∧ (rI (X (j + 1) ((b) * X j 0 + (g))) → (X (j + 1) ((b) * X j 0 + (g)) = rpE X j (b) (g))))))))))))) ∧ ((¬ (¬ b = (-1))) → (((¬ g = 0) → ((-2) = rpE X j (b) (g))) ∧ ((¬ (¬ g = 0)) → (X (j) 2 = rpE X j (b) (g)))))
set_option maxHeartbeats 4000000 in
set_option maxRecDepth 100000 in
theorem w_X10_rowPart {l : Launch} {D : va_G} {cy : Nat → ClassId} {bs N : Nat} {sa : Nat → Nat} {kd len : Nat → Nat} {X Y : Nat → Int → Int} {R : Nat → Int → Option Nat} {j nn : Nat} (hR : zRows N kd len R j nn) (hsm : len (j + 1) < 2147483648) (b : Int) (hb : rI b) (g : Int) (hg : rI g) (hF : F_X10_rowPart j nn X Y R b g) : Met l yX10_rowPart (.code yX10_rowPart cX10_rowPart 4 (some .int) :: zTB) (zRm 1 23) (zPc D cy bs sa N kd len X Y R [.ref (bs + (j)), .int (zI (b)), .int (zI (g))]) (zQi D cy bs N kd len (fun r st => r = rpE X j (b) (g) ∧ st = (X, Y, R))) 0 0 (zA bs) := by
  refine zstart (by decide) (Nat.le_of_ble_eq_true rfl) ?_
  intro p e s m args below meth c ls C hE hH hr hlk hnm hl hargs
  have hF := hF hH.2.2.1 hH.2.2.2
  have hS : va_S (zA bs) s.heap s.heap [] := va_S.rf
  have hl : lv_has ls 4 [(0, .ref (bs + (j))), (1, .int (zI (b))), (2, .int (zI (g)))] := hl
  refine lv_aload_n C.1 C.2.1 dX10_rowPart_0 rfl (lv_at hl 0 rfl) ?_
  refine lv_ifnonnull (tgt := 7) C.1 C.2.1 dX10_rowPart_1 (by decide) ?_
  refine lv_iload_n C.1 C.2.1 dX10_rowPart_7 rfl (lv_at hl 1 rfl) ?_
  refine zd_iconst C dX10_rowPart_8 ?_
  refine zd_icmp_ne C hb (by decide) 26 dX10_rowPart_9 (by decide) (fun c1 => ?_) (fun c1 => ?_)
  · have hF := hF.1 c1
    refine lv_iload_n C.1 C.2.1 dX10_rowPart_26 rfl (lv_at hl 1 rfl) ?_
    refine zd_if_lt C hb 54 dX10_rowPart_27 (by decide) (fun c2 => ?_) (fun c2 => ?_)
    · have hF := hF.1 c2
      refine zd_iconst C dX10_rowPart_54 ?_
      refine lv_istore_n (lv' := [(3, .int (zI (0))), (0, .ref (bs + (j))), (1, .int (zI (b))), (2, .int (zI (g)))]) C.1 C.2.1 dX10_rowPart_55 rfl hl (by decide) rfl (fun ls hl => ?_)
      refine lv_iload_n C.1 C.2.1 dX10_rowPart_56 rfl (lv_at hl 0 rfl) ?_
      refine zd_if_eq C (by decide) 69 dX10_rowPart_57 (by decide) (fun c3 => ?_) (fun c3 => ?_)
      · refine zd_bipush C (by decide) dX10_rowPart_69 ?_
        exact zd_iret C hr hlk hH hS (by decide) (⟨hF, rfl⟩) dX10_rowPart_71
      · exact absurd (by decide) c3
    · have hF := hF.2 c2
      refine lv_iload_n C.1 C.2.1 dX10_rowPart_30 rfl (lv_at hl 1 rfl) ?_
      refine lv_aload_n C.1 C.2.1 dX10_rowPart_31 rfl (lv_at hl 0 rfl) ?_
      refine zg8_2 C hH (zRows_n0 hR) (zRows_k0 hR) q_268 dX10_rowPart_32 ?_
      refine zd_icmp_ge C hb (hH.2.2.1 _ _) 54 dX10_rowPart_35 (by decide) (fun c4 => ?_) (fun c4 => ?_)
      · have hF := hF.1 c4
        refine zd_iconst C dX10_rowPart_54 ?_
        refine lv_istore_n (lv' := [(3, .int (zI (0))), (0, .ref (bs + (j))), (1, .int (zI (b))), (2, .int (zI (g)))]) C.1 C.2.1 dX10_rowPart_55 rfl hl (by decide) rfl (fun ls hl => ?_)
        refine lv_iload_n C.1 C.2.1 dX10_rowPart_56 rfl (lv_at hl 0 rfl) ?_
        refine zd_if_eq C (by decide) 69 dX10_rowPart_57 (by decide) (fun c5 => ?_) (fun c5 => ?_)
        · refine zd_bipush C (by decide) dX10_rowPart_69 ?_
          exact zd_iret C hr hlk hH hS (by decide) (⟨hF, rfl⟩) dX10_rowPart_71
        · exact absurd (by decide) c5
      · have hF := hF.2 c4
        refine lv_iload_n C.1 C.2.1 dX10_rowPart_38 rfl (lv_at hl 2 rfl) ?_
        refine zd_if_lt C hg 54 dX10_rowPart_39 (by decide) (fun c6 => ?_) (fun c6 => ?_)
        · have hF := hF.1 c6
          refine zd_iconst C dX10_rowPart_54 ?_
          refine lv_istore_n (lv' := [(3, .int (zI (0))), (0, .ref (bs + (j))), (1, .int (zI (b))), (2, .int (zI (g)))]) C.1 C.2.1 dX10_rowPart_55 rfl hl (by decide) rfl (fun ls hl => ?_)
          refine lv_iload_n C.1 C.2.1 dX10_rowPart_56 rfl (lv_at hl 0 rfl) ?_
          refine zd_if_eq C (by decide) 69 dX10_rowPart_57 (by decide) (fun c7 => ?_) (fun c7 => ?_)
          · refine zd_bipush C (by decide) dX10_rowPart_69 ?_
            exact zd_iret C hr hlk hH hS (by decide) (⟨hF, rfl⟩) dX10_rowPart_71
          · exact absurd (by decide) c7
        · have hF := hF.2 c6
          refine lv_iload_n C.1 C.2.1 dX10_rowPart_42 rfl (lv_at hl 2 rfl) ?_
          refine lv_aload_n C.1 C.2.1 dX10_rowPart_43 rfl (lv_at hl 0 rfl) ?_
          refine zg8_0 C hH (zRows_n0 hR) (zRows_k0 hR) q_260 dX10_rowPart_44 ?_
          refine zd_icmp_ge C hg (hH.2.2.1 _ _) 54 dX10_rowPart_47 (by decide) (fun c8 => ?_) (fun c8 => ?_)
          · have hF := hF.1 c8
            refine zd_iconst C dX10_rowPart_54 ?_
            refine lv_istore_n (lv' := [(3, .int (zI (0))), (0, .ref (bs + (j))), (1, .int (zI (b))), (2, .int (zI (g)))]) C.1 C.2.1 dX10_rowPart_55 rfl hl (by decide) rfl (fun ls hl => ?_)
            refine lv_iload_n C.1 C.2.1 dX10_rowPart_56 rfl (lv_at hl 0 rfl) ?_
            refine zd_if_eq C (by decide) 69 dX10_rowPart_57 (by decide) (fun c9 => ?_) (fun c9 => ?_)
            · refine zd_bipush C (by decide) dX10_rowPart_69 ?_
              exact zd_iret C hr hlk hH hS (by decide) (⟨hF, rfl⟩) dX10_rowPart_71
            · exact absurd (by decide) c9
          · have hF := hF.2 c8
            refine zd_iconst C dX10_rowPart_50 ?_
            refine lv_goto (tgt := 55) C.1 C.2.1 dX10_rowPart_51 (by decide) ?_
            refine lv_istore_n (lv' := [(3, .int (zI (1))), (0, .ref (bs + (j))), (1, .int (zI (b))), (2, .int (zI (g)))]) C.1 C.2.1 dX10_rowPart_55 rfl hl (by decide) rfl (fun ls hl => ?_)
            refine lv_iload_n C.1 C.2.1 dX10_rowPart_56 rfl (lv_at hl 0 rfl) ?_
            refine zd_if_eq C (by decide) 69 dX10_rowPart_57 (by decide) (fun c10 => ?_) (fun c10 => ?_)
            · exact absurd c10 (by decide)
            · refine lv_aload_n C.1 C.2.1 dX10_rowPart_60 rfl (lv_at hl 1 rfl) ?_
              refine lv_iload_n C.1 C.2.1 dX10_rowPart_61 rfl (lv_at hl 2 rfl) ?_
              refine lv_iload_n C.1 C.2.1 dX10_rowPart_62 rfl (lv_at hl 3 rfl) ?_
              obtain ⟨o11, hF⟩ := hF
              refine zgoi (zrunV (As := [.int (zI (b)), .int (zI (g))]) (rest := []) C hE hH hS hl.1 (c_X8_part (l := l) hR hsm (b) hb (g) hg o11) k_RX10_192 ⟨Nat.le_of_ble_eq_true rfl, Nat.le_of_ble_eq_true rfl⟩ (zRows_n0 hR) (zRows_k0 hR) rfl rfl rfl (Nat.le_of_ble_eq_true rfl) dX10_rowPart_63 ⟨Nat.zero_le _, Nat.zero_le _⟩) hS (fun rq Xq Yq Rq H locs hrq hq hH hS => ?_)
              obtain ⟨h91, h92⟩ := hq
              have h93 : Xq = X := congrArg (fun z => z.1) h92
              have h94 : Yq = Y := congrArg (fun z => z.2.1) h92
              have h95 : Rq = R := congrArg (fun z => z.2.2) h92
              rw [h93, h94, h95] at hH
              subst h91
              have hr12 := hrq
              have hF := hF hr12
              refine lv_goto (tgt := 71) C.1 C.2.1 dX10_rowPart_66 (by decide) ?_
              exact zd_iret C hr hlk hH hS hr12 (⟨hF, rfl⟩) dX10_rowPart_71
  · have hF := hF.2 c1
    refine lv_iload_n C.1 C.2.1 dX10_rowPart_12 rfl (lv_at hl 2 rfl) ?_
    refine zd_if_ne C hg 23 dX10_rowPart_13 (by decide) (fun c13 => ?_) (fun c13 => ?_)
    · have hF := hF.1 c13
      refine zd_bipush C (by decide) dX10_rowPart_23 ?_
      exact zd_iret C hr hlk hH hS (by decide) (⟨hF, rfl⟩) dX10_rowPart_25
    · have hF := hF.2 c13
      refine lv_aload_n C.1 C.2.1 dX10_rowPart_16 rfl (lv_at hl 0 rfl) ?_
      refine zg8_2 C hH (zRows_n0 hR) (zRows_k0 hR) q_268 dX10_rowPart_17 ?_
      refine lv_goto (tgt := 25) C.1 C.2.1 dX10_rowPart_20 (by decide) ?_
      exact zd_iret C hr hlk hH hS (hH.2.2.1 _ _) (⟨hF, rfl⟩) dX10_rowPart_25
theorem v_X10_rowPart {X Y : Nat → Int → Int} {R : Nat → Int → Option Nat} {j nn : Nat} (b : Int) (hb : rI b) (g : Int) (hg : rI g) (hp : oRw X j nn) : F_X10_rowPart j nn X Y R b g := by
  unfold F_X10_rowPart
  intro hX hY
  unfold rpE
  refine ⟨?_, ?_⟩
  · intro c1
    refine ⟨?_, ?_⟩
    · intro c2
      rw [if_neg c1, if_neg (by omega)]
    intro c3
    refine ⟨?_, ?_⟩
    · intro c4
      rw [if_neg c1, if_neg (by omega)]
    intro c5
    refine ⟨?_, ?_⟩
    · intro c6
      rw [if_neg c1, if_neg (by omega)]
    intro c7
    refine ⟨?_, ?_⟩
    · intro c8
      rw [if_neg c1, if_neg (by omega)]
    intro c9
    refine ⟨?_, ?_⟩
    · have := hp.2.1
      exact ⟨hp, by omega, by omega⟩
    intro _
    rw [if_neg c1, if_pos (by omega)]
  intro c10
  refine ⟨?_, ?_⟩
  · intro c11
    rw [if_pos (Classical.not_not.mp c10), if_neg c11]
  intro c12
  rw [if_pos (Classical.not_not.mp c10), if_pos (Classical.not_not.mp c12)]
theorem c_X10_rowPart {l : Launch} {D : va_G} {cy : Nat → ClassId} {bs N : Nat} {sa : Nat → Nat} {kd len : Nat → Nat} {X Y : Nat → Int → Int} {R : Nat → Int → Option Nat} {j nn : Nat} (hR : zRows N kd len R j nn) (hsm : len (j + 1) < 2147483648) (b : Int) (hb : rI b) (g : Int) (hg : rI g) (hp : oRw X j nn) : Met l yX10_rowPart (.code yX10_rowPart cX10_rowPart 4 (some .int) :: zTB) (zRm 1 23) (zPc D cy bs sa N kd len X Y R [.ref (bs + (j)), .int (zI (b)), .int (zI (g))]) (zQi D cy bs N kd len (fun r st => r = rpE X j (b) (g) ∧ st = (X, Y, R))) 0 0 (zA bs) := w_X10_rowPart hR hsm b hb g hg (v_X10_rowPart b hb g hg hp)
def F_X10_rowPartN (X Y : Nat → Int → Int) (R : Nat → Int → Option Nat) (b : Int) (g : Int) : Prop := (∀ i j, rI (X i j)) → (∀ i j, rL (Y i j)) → (-2) = (-2)
set_option maxHeartbeats 4000000 in
set_option maxRecDepth 100000 in
theorem w_X10_rowPartN {l : Launch} {D : va_G} {cy : Nat → ClassId} {bs N : Nat} {sa : Nat → Nat} {kd len : Nat → Nat} {X Y : Nat → Int → Int} {R : Nat → Int → Option Nat}  (b : Int) (hb : rI b) (g : Int) (hg : rI g) (hF : F_X10_rowPartN  X Y R b g) : Met l yX10_rowPart (.code yX10_rowPart cX10_rowPart 4 (some .int) :: zTB) (zRm 1 23) (zPc D cy bs sa N kd len X Y R [.null, .int (zI (b)), .int (zI (g))]) (zQi D cy bs N kd len (fun r st => r = (-2) ∧ st = (X, Y, R))) 0 0 (zA bs) := by
  refine zstart (by decide) (Nat.le_of_ble_eq_true rfl) ?_
  intro p e s m args below meth c ls C hE hH hr hlk hnm hl hargs
  have hF := hF hH.2.2.1 hH.2.2.2
  have hS : va_S (zA bs) s.heap s.heap [] := va_S.rf
  have hl : lv_has ls 4 [(0, .null), (1, .int (zI (b))), (2, .int (zI (g)))] := hl
  refine lv_aload_nN C.1 C.2.1 dX10_rowPart_0 rfl (lv_at hl 0 rfl) ?_
  refine lv_ifnonnullN C.1 C.2.1 dX10_rowPart_1 ?_
  refine zd_bipush C (by decide) dX10_rowPart_4 ?_
  exact zd_iret C hr hlk hH hS (by decide) (⟨hF, rfl⟩) dX10_rowPart_6
theorem v_X10_rowPartN {X Y : Nat → Int → Int} {R : Nat → Int → Option Nat}  (b : Int) (hb : rI b) (g : Int) (hg : rI g) : F_X10_rowPartN  X Y R b g := by
  unfold F_X10_rowPartN
  intro hX hY
  rfl
theorem c_X10_rowPartN {l : Launch} {D : va_G} {cy : Nat → ClassId} {bs N : Nat} {sa : Nat → Nat} {kd len : Nat → Nat} {X Y : Nat → Int → Int} {R : Nat → Int → Option Nat}  (b : Int) (hb : rI b) (g : Int) (hg : rI g) : Met l yX10_rowPart (.code yX10_rowPart cX10_rowPart 4 (some .int) :: zTB) (zRm 1 23) (zPc D cy bs sa N kd len X Y R [.null, .int (zI (b)), .int (zI (g))]) (zQi D cy bs N kd len (fun r st => r = (-2) ∧ st = (X, Y, R))) 0 0 (zA bs) := w_X10_rowPartN  b hb g hg (v_X10_rowPartN b hb g hg)
abbrev cX10_deed : ByteArray := prog_1_method_12_code
def yX10_deed : MethodName := ⟨RX10, "deed", "(III)I"⟩
theorem dX10_deed_0 : decode cX10_deed 0 = .ok (.aload_n 0, 1) := by decide +kernel
theorem dX10_deed_1 : decode cX10_deed 1 = .ok (.getfield 10, 3) := by decide +kernel
theorem dX10_deed_4 : decode cX10_deed 4 = .ok (.iconst 2, 1) := by decide +kernel
theorem dX10_deed_5 : decode cX10_deed 5 = .ok (.iload_n 1, 1) := by decide +kernel
theorem dX10_deed_6 : decode cX10_deed 6 = .ok (.invokevirtual 176, 3) := by decide +kernel
theorem dX10_deed_9 : decode cX10_deed 9 = .ok (.iload_n 2, 1) := by decide +kernel
theorem dX10_deed_10 : decode cX10_deed 10 = .ok (.iload_n 3, 1) := by decide +kernel
theorem dX10_deed_11 : decode cX10_deed 11 = .ok (.invokestatic 180, 3) := by decide +kernel
theorem dX10_deed_14 : decode cX10_deed 14 = .ok (.ireturn, 1) := by decide +kernel
theorem q_871 : Cond.static yX10_rowPart ∈ zTB := zmem 871 (by decide +kernel) rfl
theorem q_872 : Cond.code yX10_rowPart cX10_rowPart 4 (some .int) ∈ zTB := zmem 872 (by decide +kernel) rfl
theorem q_870 : Cond.methodLink RX10 180 yX10_rowPart ∈ zTB := zmem 870 (by decide +kernel) rfl
theorem k_RX10_180 : zLs RX10 180 yX10_rowPart cX10_rowPart 4 (some .int) 3 := ⟨⟨q_870, q_871, q_129, q_872⟩, ⟨by decide, by decide⟩, by decide +kernel⟩
def F_X10_deed (i : Nat) (Z : Nat → Int → Int) (q : Nat) (X Y : Nat → Int → Int) (R : Nat → Int → Option Nat) (a : Int) (b : Int) (g : Int) : Prop := (∀ i j, rI (X i j)) → (∀ i j, rL (Y i j)) → (((2 ≤ ((2 : Int)) ∧ ((2 : Int)) < 5) ∧ 0 ≤ (a) ∧ (a) < 2 ∧ (a) < X (i + 3) ((2 : Int))) → ((oRw X (i + 23 + 2 * (((2 - 2) * 2 + a) : Int).toNat) (rwN ((2 - 2) * 2 + a))) ∧ (rI (rpE X (i + 23 + 2 * (((2 - 2) * 2 + a) : Int).toNat) (b) (g)) → (rpE X (i + 23 + 2 * (((2 - 2) * 2 + a) : Int).toNat) (b) (g) = rDeed Z q (a) (b) (g))))) ∧ (¬ ((2 ≤ ((2 : Int)) ∧ ((2 : Int)) < 5) ∧ 0 ≤ (a) ∧ (a) < 2 ∧ (a) < X (i + 3) ((2 : Int))) → (rI ((-2)) → ((-2) = rDeed Z q (a) (b) (g))))
set_option maxHeartbeats 4000000 in
set_option maxRecDepth 100000 in
theorem w_X10_deed {l : Launch} {D : va_G} {cy : Nat → ClassId} {bs N : Nat} {sa : Nat → Nat} {kd len : Nat → Nat} {X Y : Nat → Int → Int} {R : Nat → Int → Option Nat} {i : Nat} {Z : Nat → Int → Int} {q : Nat} (hC : zWC N kd len R i) (a : Int) (ha : rI a) (b : Int) (hb : rI b) (g : Int) (hg : rI g) (hF : F_X10_deed i Z q X Y R a b g) : Met l yX10_deed (.code yX10_deed cX10_deed 4 (some .int) :: zTB) (zRm 2 46) (zPc D cy bs sa N kd len X Y R [.ref (bs + (i)), .int (zI (a)), .int (zI (b)), .int (zI (g))]) (zQi D cy bs N kd len (fun r st => r = rDeed Z q (a) (b) (g) ∧ st = (X, Y, R))) 0 0 (zA bs) := by
  refine zstart (by decide) (Nat.le_of_ble_eq_true rfl) ?_
  intro p e s m args below meth c ls C hE hH hr hlk hnm hl hargs
  have hF := hF hH.2.2.1 hH.2.2.2
  have hS : va_S (zA bs) s.heap s.heap [] := va_S.rf
  have hl : lv_has ls 4 [(0, .ref (bs + (i))), (1, .int (zI (a))), (2, .int (zI (b))), (3, .int (zI (g)))] := hl
  refine lv_aload_n C.1 C.2.1 dX10_deed_0 rfl (lv_at hl 0 rfl) ?_
  refine zg10_0 C hH (zW_n hC) (zW_k hC) q_569 (zW_td hC).1 dX10_deed_1 ?_
  refine zd_iconst C dX10_deed_4 ?_
  refine lv_iload_n C.1 C.2.1 dX10_deed_5 rfl (lv_at hl 1 rfl) ?_
  refine zgor (zrunV (As := [.int (zI (2)), .int (zI (a))]) (rest := []) C hE hH hS hl.1 (c_X9_rowsAt (l := l) (zW_td hC).2 (2) (by decide) (a) ha) k_RX10_176 ⟨Nat.le_of_ble_eq_true rfl, Nat.le_of_ble_eq_true rfl⟩ (zTold_n0 (zW_td hC).2.1) (zTold_k0 (zW_td hC).2.1) rfl rfl rfl (Nat.le_of_ble_eq_true rfl) dX10_deed_6 ⟨Nat.zero_le _, Nat.zero_le _⟩) hS (fun rq Xq Yq Rq H locs hq hH hS => ?_)
  obtain ⟨h92, h91⟩ := hq
  have h93 : Xq = X := congrArg (fun z => z.1) h92
  have h94 : Yq = Y := congrArg (fun z => z.2.1) h92
  have h95 : Rq = R := congrArg (fun z => z.2.2) h92
  rw [h93, h94, h95] at hH
  rw [h91]
  by_cases c1 : (2 ≤ ((2 : Int)) ∧ ((2 : Int)) < 5) ∧ 0 ≤ (a) ∧ (a) < 2 ∧ (a) < X (i + 3) ((2 : Int))
  · rw [if_pos c1]
    have hF := hF.1 c1
    refine lv_iload_n C.1 C.2.1 dX10_deed_9 rfl (lv_at hl 2 rfl) ?_
    refine lv_iload_n C.1 C.2.1 dX10_deed_10 rfl (lv_at hl 3 rfl) ?_
    obtain ⟨o2, hF⟩ := hF
    refine zgoi (zrunS (As := [.ref (bs + (i + 23 + 2 * (((2 - 2) * 2 + a) : Int).toNat)), .int (zI (b)), .int (zI (g))]) (rest := []) C hE hH hS hl.1 (c_X10_rowPart (l := l) (zTd_rw (zW_td hC).2 (rix_0 c1) (rix_1 c1)).1.2 (zTd_rw (zW_td hC).2 (rix_0 c1) (rix_1 c1)).2 (b) hb (g) hg o2) k_RX10_180 ⟨Nat.le_of_ble_eq_true rfl, Nat.le_of_ble_eq_true rfl⟩ rfl (Nat.le_of_ble_eq_true rfl) dX10_deed_11 ⟨Nat.zero_le _, Nat.zero_le _⟩) hS (fun rq Xq Yq Rq H locs hrq hq hH hS => ?_)
    obtain ⟨h91, h92⟩ := hq
    have h93 : Xq = X := congrArg (fun z => z.1) h92
    have h94 : Yq = Y := congrArg (fun z => z.2.1) h92
    have h95 : Rq = R := congrArg (fun z => z.2.2) h92
    rw [h93, h94, h95] at hH
    subst h91
    have hr3 := hrq
    have hF := hF hr3
    exact zd_iret C hr hlk hH hS hr3 (⟨hF, rfl⟩) dX10_deed_14
  · rw [if_neg c1]
    have hF := hF.2 c1
    refine lv_iload_n C.1 C.2.1 dX10_deed_9 rfl (lv_at hl 2 rfl) ?_
    refine lv_iload_n C.1 C.2.1 dX10_deed_10 rfl (lv_at hl 3 rfl) ?_
    refine zgoi (zrunS (As := [.null, .int (zI (b)), .int (zI (g))]) (rest := []) C hE hH hS hl.1 (c_X10_rowPartN (l := l)  (b) hb (g) hg) k_RX10_180 ⟨Nat.le_of_ble_eq_true rfl, Nat.le_of_ble_eq_true rfl⟩ rfl (Nat.le_of_ble_eq_true rfl) dX10_deed_11 ⟨Nat.zero_le _, Nat.zero_le _⟩) hS (fun rq Xq Yq Rq H locs hrq hq hH hS => ?_)
    obtain ⟨h91, h92⟩ := hq
    have h93 : Xq = X := congrArg (fun z => z.1) h92
    have h94 : Yq = Y := congrArg (fun z => z.2.1) h92
    have h95 : Rq = R := congrArg (fun z => z.2.2) h92
    rw [h93, h94, h95] at hH
    subst h91
    have hr4 := hrq
    have hF := hF hr4
    exact zd_iret C hr hlk hH hS (by decide) (⟨hF, rfl⟩) dX10_deed_14
theorem v_X10_deed {X Y : Nat → Int → Int} {R : Nat → Int → Option Nat} {i : Nat} {Z : Nat → Int → Int} {q : Nat} (a : Int) (ha : rI a) (b : Int) (hb : rI b) (g : Int) (hg : rI g) (hp : wcQ Z q X i) : F_X10_deed i Z q X Y R a b g := by
  unfold F_X10_deed
  intro hX hY
  obtain ⟨hO, hT, hI⟩ := hp
  have ts : X (i + 1 + 2) 2 = Z (q + 5) 2 := hT.2.2.1 2 (by decide) (by decide)
  have qs := hO.1.1 2 (by decide) (by decide)
  refine ⟨?_, ?_⟩
  · intro c1
    obtain ⟨_, a0, a1, a2⟩ := c1
    have a2 : a < X (i + 1 + 2) 2 := a2
    obtain ⟨an, rfl⟩ := nat_of a0
    have hF := hT.2.2.2.2.2.1 an (by omega)
    rw [show i + 1 + 22 + 2 * an = i + 23 + 2 * (0 + an) by omega] at hF
    rw [show ((2 - 2) * 2 + (an : Int)).toNat = 0 + an by omega]
    have hr := hF.2 a2
    rw [show 162 * (0 : Int) + 81 * (an : Int) = 81 * an by omega] at hr
    have em : mIs q Z 2 an = true := mIn_t.mpr (by omega)
    have hn : rwN ((2 - 2) * 2 + (an : Int)) = 80 := by
      unfold rwN
      rw [if_pos (by omega)]
    rw [hn]
    have w0 : X (i + 23 + 2 * (0 + an)) 0 = 2 := hF.1.2.1
    refine ⟨?_, ?_⟩
    · exact hF.1.1
    intro _
    unfold rpE rDeed
    rw [if_pos em, w0]
    have e2 := hr.1
    by_cases b1 : b = -1
    · rw [if_pos b1, if_pos b1, e2]
    · rw [if_neg b1, if_neg b1, e2]
      by_cases c : (0 ≤ b ∧ b < Z (q + 8) (81 * an)) ∧ 0 ≤ g ∧ g < 2
      · rw [if_pos c, if_pos (by rw [Bool.and_eq_true, mIn_t, mIn_t]; omega)]
        exact hr.2 b g c.1.1 (by rw [e2]; exact c.1.2) c.2.1 c.2.2
      · rw [if_neg c, if_neg (by rw [Bool.and_eq_true, mIn_t, mIn_t]; omega)]
  intro c2
  intro _
  unfold rDeed
  rw [if_neg (show ¬ mIs q Z 2 a = true by show ¬ mIn a 0 (Z (q + 5) 2 - 1) = true; rw [mIn_t]; exact fun z => c2 ⟨by decide, z.1, by omega, by show a < X (i + 1 + 2) 2; omega⟩)]
theorem c_X10_deed {l : Launch} {D : va_G} {cy : Nat → ClassId} {bs N : Nat} {sa : Nat → Nat} {kd len : Nat → Nat} {X Y : Nat → Int → Int} {R : Nat → Int → Option Nat} {i : Nat} {Z : Nat → Int → Int} {q : Nat} (hC : zWC N kd len R i) (a : Int) (ha : rI a) (b : Int) (hb : rI b) (g : Int) (hg : rI g) (hp : wcQ Z q X i) : Met l yX10_deed (.code yX10_deed cX10_deed 4 (some .int) :: zTB) (zRm 2 46) (zPc D cy bs sa N kd len X Y R [.ref (bs + (i)), .int (zI (a)), .int (zI (b)), .int (zI (g))]) (zQi D cy bs N kd len (fun r st => r = rDeed Z q (a) (b) (g) ∧ st = (X, Y, R))) 0 0 (zA bs) := w_X10_deed hC a ha b hb g hg (v_X10_deed a ha b hb g hg hp)
abbrev cX10_fact : ByteArray := prog_1_method_14_code
def yX10_fact : MethodName := ⟨RX10, "fact", "(III)I"⟩
theorem dX10_fact_0 : decode cX10_fact 0 = .ok (.aload_n 0, 1) := by decide +kernel
theorem dX10_fact_1 : decode cX10_fact 1 = .ok (.getfield 10, 3) := by decide +kernel
theorem dX10_fact_4 : decode cX10_fact 4 = .ok (.iconst 3, 1) := by decide +kernel
theorem dX10_fact_5 : decode cX10_fact 5 = .ok (.iload_n 1, 1) := by decide +kernel
theorem dX10_fact_6 : decode cX10_fact 6 = .ok (.invokevirtual 176, 3) := by decide +kernel
theorem dX10_fact_9 : decode cX10_fact 9 = .ok (.iload_n 2, 1) := by decide +kernel
theorem dX10_fact_10 : decode cX10_fact 10 = .ok (.iload_n 3, 1) := by decide +kernel
theorem dX10_fact_11 : decode cX10_fact 11 = .ok (.invokestatic 180, 3) := by decide +kernel
theorem dX10_fact_14 : decode cX10_fact 14 = .ok (.ireturn, 1) := by decide +kernel
def F_X10_fact (i : Nat) (Z : Nat → Int → Int) (q : Nat) (X Y : Nat → Int → Int) (R : Nat → Int → Option Nat) (a : Int) (b : Int) (g : Int) : Prop := (∀ i j, rI (X i j)) → (∀ i j, rL (Y i j)) → (((2 ≤ ((3 : Int)) ∧ ((3 : Int)) < 5) ∧ 0 ≤ (a) ∧ (a) < 2 ∧ (a) < X (i + 3) ((3 : Int))) → ((oRw X (i + 23 + 2 * (((3 - 2) * 2 + a) : Int).toNat) (rwN ((3 - 2) * 2 + a))) ∧ (rI (rpE X (i + 23 + 2 * (((3 - 2) * 2 + a) : Int).toNat) (b) (g)) → (rpE X (i + 23 + 2 * (((3 - 2) * 2 + a) : Int).toNat) (b) (g) = rFact Z q (a) (b) (g))))) ∧ (¬ ((2 ≤ ((3 : Int)) ∧ ((3 : Int)) < 5) ∧ 0 ≤ (a) ∧ (a) < 2 ∧ (a) < X (i + 3) ((3 : Int))) → (rI ((-2)) → ((-2) = rFact Z q (a) (b) (g))))
set_option maxHeartbeats 4000000 in
set_option maxRecDepth 100000 in
theorem w_X10_fact {l : Launch} {D : va_G} {cy : Nat → ClassId} {bs N : Nat} {sa : Nat → Nat} {kd len : Nat → Nat} {X Y : Nat → Int → Int} {R : Nat → Int → Option Nat} {i : Nat} {Z : Nat → Int → Int} {q : Nat} (hC : zWC N kd len R i) (a : Int) (ha : rI a) (b : Int) (hb : rI b) (g : Int) (hg : rI g) (hF : F_X10_fact i Z q X Y R a b g) : Met l yX10_fact (.code yX10_fact cX10_fact 4 (some .int) :: zTB) (zRm 2 46) (zPc D cy bs sa N kd len X Y R [.ref (bs + (i)), .int (zI (a)), .int (zI (b)), .int (zI (g))]) (zQi D cy bs N kd len (fun r st => r = rFact Z q (a) (b) (g) ∧ st = (X, Y, R))) 0 0 (zA bs) := by
  refine zstart (by decide) (Nat.le_of_ble_eq_true rfl) ?_
  intro p e s m args below meth c ls C hE hH hr hlk hnm hl hargs
  have hF := hF hH.2.2.1 hH.2.2.2
  have hS : va_S (zA bs) s.heap s.heap [] := va_S.rf
  have hl : lv_has ls 4 [(0, .ref (bs + (i))), (1, .int (zI (a))), (2, .int (zI (b))), (3, .int (zI (g)))] := hl
  refine lv_aload_n C.1 C.2.1 dX10_fact_0 rfl (lv_at hl 0 rfl) ?_
  refine zg10_0 C hH (zW_n hC) (zW_k hC) q_569 (zW_td hC).1 dX10_fact_1 ?_
  refine zd_iconst C dX10_fact_4 ?_
  refine lv_iload_n C.1 C.2.1 dX10_fact_5 rfl (lv_at hl 1 rfl) ?_
  refine zgor (zrunV (As := [.int (zI (3)), .int (zI (a))]) (rest := []) C hE hH hS hl.1 (c_X9_rowsAt (l := l) (zW_td hC).2 (3) (by decide) (a) ha) k_RX10_176 ⟨Nat.le_of_ble_eq_true rfl, Nat.le_of_ble_eq_true rfl⟩ (zTold_n0 (zW_td hC).2.1) (zTold_k0 (zW_td hC).2.1) rfl rfl rfl (Nat.le_of_ble_eq_true rfl) dX10_fact_6 ⟨Nat.zero_le _, Nat.zero_le _⟩) hS (fun rq Xq Yq Rq H locs hq hH hS => ?_)
  obtain ⟨h92, h91⟩ := hq
  have h93 : Xq = X := congrArg (fun z => z.1) h92
  have h94 : Yq = Y := congrArg (fun z => z.2.1) h92
  have h95 : Rq = R := congrArg (fun z => z.2.2) h92
  rw [h93, h94, h95] at hH
  rw [h91]
  by_cases c1 : (2 ≤ ((3 : Int)) ∧ ((3 : Int)) < 5) ∧ 0 ≤ (a) ∧ (a) < 2 ∧ (a) < X (i + 3) ((3 : Int))
  · rw [if_pos c1]
    have hF := hF.1 c1
    refine lv_iload_n C.1 C.2.1 dX10_fact_9 rfl (lv_at hl 2 rfl) ?_
    refine lv_iload_n C.1 C.2.1 dX10_fact_10 rfl (lv_at hl 3 rfl) ?_
    obtain ⟨o2, hF⟩ := hF
    refine zgoi (zrunS (As := [.ref (bs + (i + 23 + 2 * (((3 - 2) * 2 + a) : Int).toNat)), .int (zI (b)), .int (zI (g))]) (rest := []) C hE hH hS hl.1 (c_X10_rowPart (l := l) (zTd_rw (zW_td hC).2 (rix_0 c1) (rix_1 c1)).1.2 (zTd_rw (zW_td hC).2 (rix_0 c1) (rix_1 c1)).2 (b) hb (g) hg o2) k_RX10_180 ⟨Nat.le_of_ble_eq_true rfl, Nat.le_of_ble_eq_true rfl⟩ rfl (Nat.le_of_ble_eq_true rfl) dX10_fact_11 ⟨Nat.zero_le _, Nat.zero_le _⟩) hS (fun rq Xq Yq Rq H locs hrq hq hH hS => ?_)
    obtain ⟨h91, h92⟩ := hq
    have h93 : Xq = X := congrArg (fun z => z.1) h92
    have h94 : Yq = Y := congrArg (fun z => z.2.1) h92
    have h95 : Rq = R := congrArg (fun z => z.2.2) h92
    rw [h93, h94, h95] at hH
    subst h91
    have hr3 := hrq
    have hF := hF hr3
    exact zd_iret C hr hlk hH hS hr3 (⟨hF, rfl⟩) dX10_fact_14
  · rw [if_neg c1]
    have hF := hF.2 c1
    refine lv_iload_n C.1 C.2.1 dX10_fact_9 rfl (lv_at hl 2 rfl) ?_
    refine lv_iload_n C.1 C.2.1 dX10_fact_10 rfl (lv_at hl 3 rfl) ?_
    refine zgoi (zrunS (As := [.null, .int (zI (b)), .int (zI (g))]) (rest := []) C hE hH hS hl.1 (c_X10_rowPartN (l := l)  (b) hb (g) hg) k_RX10_180 ⟨Nat.le_of_ble_eq_true rfl, Nat.le_of_ble_eq_true rfl⟩ rfl (Nat.le_of_ble_eq_true rfl) dX10_fact_11 ⟨Nat.zero_le _, Nat.zero_le _⟩) hS (fun rq Xq Yq Rq H locs hrq hq hH hS => ?_)
    obtain ⟨h91, h92⟩ := hq
    have h93 : Xq = X := congrArg (fun z => z.1) h92
    have h94 : Yq = Y := congrArg (fun z => z.2.1) h92
    have h95 : Rq = R := congrArg (fun z => z.2.2) h92
    rw [h93, h94, h95] at hH
    subst h91
    have hr4 := hrq
    have hF := hF hr4
    exact zd_iret C hr hlk hH hS (by decide) (⟨hF, rfl⟩) dX10_fact_14
theorem v_X10_fact {X Y : Nat → Int → Int} {R : Nat → Int → Option Nat} {i : Nat} {Z : Nat → Int → Int} {q : Nat} (a : Int) (ha : rI a) (b : Int) (hb : rI b) (g : Int) (hg : rI g) (hp : wcQ Z q X i) : F_X10_fact i Z q X Y R a b g := by
  unfold F_X10_fact
  intro hX hY
  obtain ⟨hO, hT, hI⟩ := hp
  have ts : X (i + 1 + 2) 3 = Z (q + 5) 3 := hT.2.2.1 3 (by decide) (by decide)
  have qs := hO.1.1 3 (by decide) (by decide)
  refine ⟨?_, ?_⟩
  · intro c1
    obtain ⟨_, a0, a1, a2⟩ := c1
    have a2 : a < X (i + 1 + 2) 3 := a2
    obtain ⟨an, rfl⟩ := nat_of a0
    have hF := hT.2.2.2.2.2.2.1 an (by omega)
    rw [show i + 1 + 26 + 2 * an = i + 23 + 2 * (2 + an) by omega] at hF
    rw [show ((3 - 2) * 2 + (an : Int)).toNat = 2 + an by omega]
    have hr := hF.2 a2
    rw [show 34 * (0 : Int) + 17 * (an : Int) = 17 * an by omega] at hr
    have em : mIs q Z 3 an = true := mIn_t.mpr (by omega)
    have hn : rwN ((3 - 2) * 2 + (an : Int)) = 16 := by
      unfold rwN
      rw [if_neg (by omega), if_pos (by omega)]
    rw [hn]
    have w0 : X (i + 23 + 2 * (2 + an)) 0 = 2 := hF.1.2.1
    refine ⟨?_, ?_⟩
    · exact hF.1.1
    intro _
    unfold rpE rFact
    rw [if_pos em, w0]
    have e2 := hr.1
    by_cases b1 : b = -1
    · rw [if_pos b1, if_pos b1, e2]
    · rw [if_neg b1, if_neg b1, e2]
      by_cases c : (0 ≤ b ∧ b < Z (q + 9) (17 * an)) ∧ 0 ≤ g ∧ g < 2
      · rw [if_pos c, if_pos (by rw [Bool.and_eq_true, mIn_t, mIn_t]; omega)]
        exact hr.2 b g c.1.1 (by rw [e2]; exact c.1.2) c.2.1 c.2.2
      · rw [if_neg c, if_neg (by rw [Bool.and_eq_true, mIn_t, mIn_t]; omega)]
  intro c2
  intro _
  unfold rFact
  rw [if_neg (show ¬ mIs q Z 3 a = true by show ¬ mIn a 0 (Z (q + 5) 3 - 1) = true; rw [mIn_t]; exact fun z => c2 ⟨by decide, z.1, by omega, by show a < X (i + 1 + 2) 3; omega⟩)]
theorem c_X10_fact {l : Launch} {D : va_G} {cy : Nat → ClassId} {bs N : Nat} {sa : Nat → Nat} {kd len : Nat → Nat} {X Y : Nat → Int → Int} {R : Nat → Int → Option Nat} {i : Nat} {Z : Nat → Int → Int} {q : Nat} (hC : zWC N kd len R i) (a : Int) (ha : rI a) (b : Int) (hb : rI b) (g : Int) (hg : rI g) (hp : wcQ Z q X i) : Met l yX10_fact (.code yX10_fact cX10_fact 4 (some .int) :: zTB) (zRm 2 46) (zPc D cy bs sa N kd len X Y R [.ref (bs + (i)), .int (zI (a)), .int (zI (b)), .int (zI (g))]) (zQi D cy bs N kd len (fun r st => r = rFact Z q (a) (b) (g) ∧ st = (X, Y, R))) 0 0 (zA bs) := w_X10_fact hC a ha b hb g hg (v_X10_fact a ha b hb g hg hp)
abbrev cX10_pool : ByteArray := prog_1_method_13_code
def yX10_pool : MethodName := ⟨RX10, "pool", "(III)I"⟩
theorem dX10_pool_0 : decode cX10_pool 0 = .ok (.aload_n 0, 1) := by decide +kernel
theorem dX10_pool_1 : decode cX10_pool 1 = .ok (.getfield 10, 3) := by decide +kernel
theorem dX10_pool_4 : decode cX10_pool 4 = .ok (.iconst 4, 1) := by decide +kernel
theorem dX10_pool_5 : decode cX10_pool 5 = .ok (.iload_n 1, 1) := by decide +kernel
theorem dX10_pool_6 : decode cX10_pool 6 = .ok (.invokevirtual 176, 3) := by decide +kernel
theorem dX10_pool_9 : decode cX10_pool 9 = .ok (.iload_n 2, 1) := by decide +kernel
theorem dX10_pool_10 : decode cX10_pool 10 = .ok (.iload_n 3, 1) := by decide +kernel
theorem dX10_pool_11 : decode cX10_pool 11 = .ok (.invokestatic 180, 3) := by decide +kernel
theorem dX10_pool_14 : decode cX10_pool 14 = .ok (.ireturn, 1) := by decide +kernel
def F_X10_pool (i : Nat) (Z : Nat → Int → Int) (q : Nat) (X Y : Nat → Int → Int) (R : Nat → Int → Option Nat) (a : Int) (b : Int) (g : Int) : Prop := (∀ i j, rI (X i j)) → (∀ i j, rL (Y i j)) → (((2 ≤ ((4 : Int)) ∧ ((4 : Int)) < 5) ∧ 0 ≤ (a) ∧ (a) < 2 ∧ (a) < X (i + 3) ((4 : Int))) → ((oRw X (i + 23 + 2 * (((4 - 2) * 2 + a) : Int).toNat) (rwN ((4 - 2) * 2 + a))) ∧ (rI (rpE X (i + 23 + 2 * (((4 - 2) * 2 + a) : Int).toNat) (b) (g)) → (rpE X (i + 23 + 2 * (((4 - 2) * 2 + a) : Int).toNat) (b) (g) = rPool Z q (a) (b) (g))))) ∧ (¬ ((2 ≤ ((4 : Int)) ∧ ((4 : Int)) < 5) ∧ 0 ≤ (a) ∧ (a) < 2 ∧ (a) < X (i + 3) ((4 : Int))) → (rI ((-2)) → ((-2) = rPool Z q (a) (b) (g))))
set_option maxHeartbeats 4000000 in
set_option maxRecDepth 100000 in
theorem w_X10_pool {l : Launch} {D : va_G} {cy : Nat → ClassId} {bs N : Nat} {sa : Nat → Nat} {kd len : Nat → Nat} {X Y : Nat → Int → Int} {R : Nat → Int → Option Nat} {i : Nat} {Z : Nat → Int → Int} {q : Nat} (hC : zWC N kd len R i) (a : Int) (ha : rI a) (b : Int) (hb : rI b) (g : Int) (hg : rI g) (hF : F_X10_pool i Z q X Y R a b g) : Met l yX10_pool (.code yX10_pool cX10_pool 4 (some .int) :: zTB) (zRm 2 46) (zPc D cy bs sa N kd len X Y R [.ref (bs + (i)), .int (zI (a)), .int (zI (b)), .int (zI (g))]) (zQi D cy bs N kd len (fun r st => r = rPool Z q (a) (b) (g) ∧ st = (X, Y, R))) 0 0 (zA bs) := by
  refine zstart (by decide) (Nat.le_of_ble_eq_true rfl) ?_
  intro p e s m args below meth c ls C hE hH hr hlk hnm hl hargs
  have hF := hF hH.2.2.1 hH.2.2.2
  have hS : va_S (zA bs) s.heap s.heap [] := va_S.rf
  have hl : lv_has ls 4 [(0, .ref (bs + (i))), (1, .int (zI (a))), (2, .int (zI (b))), (3, .int (zI (g)))] := hl
  refine lv_aload_n C.1 C.2.1 dX10_pool_0 rfl (lv_at hl 0 rfl) ?_
  refine zg10_0 C hH (zW_n hC) (zW_k hC) q_569 (zW_td hC).1 dX10_pool_1 ?_
  refine zd_iconst C dX10_pool_4 ?_
  refine lv_iload_n C.1 C.2.1 dX10_pool_5 rfl (lv_at hl 1 rfl) ?_
  refine zgor (zrunV (As := [.int (zI (4)), .int (zI (a))]) (rest := []) C hE hH hS hl.1 (c_X9_rowsAt (l := l) (zW_td hC).2 (4) (by decide) (a) ha) k_RX10_176 ⟨Nat.le_of_ble_eq_true rfl, Nat.le_of_ble_eq_true rfl⟩ (zTold_n0 (zW_td hC).2.1) (zTold_k0 (zW_td hC).2.1) rfl rfl rfl (Nat.le_of_ble_eq_true rfl) dX10_pool_6 ⟨Nat.zero_le _, Nat.zero_le _⟩) hS (fun rq Xq Yq Rq H locs hq hH hS => ?_)
  obtain ⟨h92, h91⟩ := hq
  have h93 : Xq = X := congrArg (fun z => z.1) h92
  have h94 : Yq = Y := congrArg (fun z => z.2.1) h92
  have h95 : Rq = R := congrArg (fun z => z.2.2) h92
  rw [h93, h94, h95] at hH
  rw [h91]
  by_cases c1 : (2 ≤ ((4 : Int)) ∧ ((4 : Int)) < 5) ∧ 0 ≤ (a) ∧ (a) < 2 ∧ (a) < X (i + 3) ((4 : Int))
  · rw [if_pos c1]
    have hF := hF.1 c1
    refine lv_iload_n C.1 C.2.1 dX10_pool_9 rfl (lv_at hl 2 rfl) ?_
    refine lv_iload_n C.1 C.2.1 dX10_pool_10 rfl (lv_at hl 3 rfl) ?_
    obtain ⟨o2, hF⟩ := hF
    refine zgoi (zrunS (As := [.ref (bs + (i + 23 + 2 * (((4 - 2) * 2 + a) : Int).toNat)), .int (zI (b)), .int (zI (g))]) (rest := []) C hE hH hS hl.1 (c_X10_rowPart (l := l) (zTd_rw (zW_td hC).2 (rix_0 c1) (rix_1 c1)).1.2 (zTd_rw (zW_td hC).2 (rix_0 c1) (rix_1 c1)).2 (b) hb (g) hg o2) k_RX10_180 ⟨Nat.le_of_ble_eq_true rfl, Nat.le_of_ble_eq_true rfl⟩ rfl (Nat.le_of_ble_eq_true rfl) dX10_pool_11 ⟨Nat.zero_le _, Nat.zero_le _⟩) hS (fun rq Xq Yq Rq H locs hrq hq hH hS => ?_)
    obtain ⟨h91, h92⟩ := hq
    have h93 : Xq = X := congrArg (fun z => z.1) h92
    have h94 : Yq = Y := congrArg (fun z => z.2.1) h92
    have h95 : Rq = R := congrArg (fun z => z.2.2) h92
    rw [h93, h94, h95] at hH
    subst h91
    have hr3 := hrq
    have hF := hF hr3
    exact zd_iret C hr hlk hH hS hr3 (⟨hF, rfl⟩) dX10_pool_14
  · rw [if_neg c1]
    have hF := hF.2 c1
    refine lv_iload_n C.1 C.2.1 dX10_pool_9 rfl (lv_at hl 2 rfl) ?_
    refine lv_iload_n C.1 C.2.1 dX10_pool_10 rfl (lv_at hl 3 rfl) ?_
    refine zgoi (zrunS (As := [.null, .int (zI (b)), .int (zI (g))]) (rest := []) C hE hH hS hl.1 (c_X10_rowPartN (l := l)  (b) hb (g) hg) k_RX10_180 ⟨Nat.le_of_ble_eq_true rfl, Nat.le_of_ble_eq_true rfl⟩ rfl (Nat.le_of_ble_eq_true rfl) dX10_pool_11 ⟨Nat.zero_le _, Nat.zero_le _⟩) hS (fun rq Xq Yq Rq H locs hrq hq hH hS => ?_)
    obtain ⟨h91, h92⟩ := hq
    have h93 : Xq = X := congrArg (fun z => z.1) h92
    have h94 : Yq = Y := congrArg (fun z => z.2.1) h92
    have h95 : Rq = R := congrArg (fun z => z.2.2) h92
    rw [h93, h94, h95] at hH
    subst h91
    have hr4 := hrq
    have hF := hF hr4
    exact zd_iret C hr hlk hH hS (by decide) (⟨hF, rfl⟩) dX10_pool_14
theorem v_X10_pool {X Y : Nat → Int → Int} {R : Nat → Int → Option Nat} {i : Nat} {Z : Nat → Int → Int} {q : Nat} (a : Int) (ha : rI a) (b : Int) (hb : rI b) (g : Int) (hg : rI g) (hp : wcQ Z q X i) : F_X10_pool i Z q X Y R a b g := by
  unfold F_X10_pool
  intro hX hY
  obtain ⟨hO, hT, hI⟩ := hp
  have ts : X (i + 1 + 2) 4 = Z (q + 5) 4 := hT.2.2.1 4 (by decide) (by decide)
  have qs := hO.1.1 4 (by decide) (by decide)
  refine ⟨?_, ?_⟩
  · intro c1
    obtain ⟨_, a0, a1, a2⟩ := c1
    have a2 : a < X (i + 1 + 2) 4 := a2
    obtain ⟨an, rfl⟩ := nat_of a0
    have hF := hT.2.2.2.2.2.2.2 an (by omega)
    rw [show i + 1 + 30 + 2 * an = i + 23 + 2 * (4 + an) by omega] at hF
    rw [show ((4 - 2) * 2 + (an : Int)).toNat = 4 + an by omega]
    have hr := hF.2 a2
    rw [show 50 * (0 : Int) + 25 * (an : Int) = 25 * an by omega] at hr
    have em : mIs q Z 4 an = true := mIn_t.mpr (by omega)
    have hn : rwN ((4 - 2) * 2 + (an : Int)) = 24 := by
      unfold rwN
      rw [if_neg (by omega), if_neg (by omega)]
    rw [hn]
    have w0 : X (i + 23 + 2 * (4 + an)) 0 = 4 := hF.1.2.1
    refine ⟨?_, ?_⟩
    · exact hF.1.1
    intro _
    unfold rpE rPool
    rw [if_pos em, w0]
    have e2 := hr.1
    by_cases b1 : b = -1
    · rw [if_pos b1, if_pos b1, e2]
    · rw [if_neg b1, if_neg b1, e2]
      by_cases c : (0 ≤ b ∧ b < Z (q + 10) (25 * an)) ∧ 0 ≤ g ∧ g < 4
      · rw [if_pos c, if_pos (by rw [Bool.and_eq_true, mIn_t, mIn_t]; omega)]
        exact hr.2 b g c.1.1 (by rw [e2]; exact c.1.2) c.2.1 c.2.2
      · rw [if_neg c, if_neg (by rw [Bool.and_eq_true, mIn_t, mIn_t]; omega)]
  intro c2
  intro _
  unfold rPool
  rw [if_neg (show ¬ mIs q Z 4 a = true by show ¬ mIn a 0 (Z (q + 5) 4 - 1) = true; rw [mIn_t]; exact fun z => c2 ⟨by decide, z.1, by omega, by show a < X (i + 1 + 2) 4; omega⟩)]
theorem c_X10_pool {l : Launch} {D : va_G} {cy : Nat → ClassId} {bs N : Nat} {sa : Nat → Nat} {kd len : Nat → Nat} {X Y : Nat → Int → Int} {R : Nat → Int → Option Nat} {i : Nat} {Z : Nat → Int → Int} {q : Nat} (hC : zWC N kd len R i) (a : Int) (ha : rI a) (b : Int) (hb : rI b) (g : Int) (hg : rI g) (hp : wcQ Z q X i) : Met l yX10_pool (.code yX10_pool cX10_pool 4 (some .int) :: zTB) (zRm 2 46) (zPc D cy bs sa N kd len X Y R [.ref (bs + (i)), .int (zI (a)), .int (zI (b)), .int (zI (g))]) (zQi D cy bs N kd len (fun r st => r = rPool Z q (a) (b) (g) ∧ st = (X, Y, R))) 0 0 (zA bs) := w_X10_pool hC a ha b hb g hg (v_X10_pool a ha b hb g hg hp)
abbrev cX10_end : ByteArray := prog_1_method_3_code
def yX10_end : MethodName := ⟨RX10, "end", "(I)I"⟩
theorem dX10_end_0 : decode cX10_end 0 = .ok (.iload_n 1, 1) := by decide +kernel
theorem dX10_end_1 : decode cX10_end 1 = .ok (.ifCond .lt 14, 3) := by decide +kernel
theorem dX10_end_4 : decode cX10_end 4 = .ok (.iload_n 1, 1) := by decide +kernel
theorem dX10_end_5 : decode cX10_end 5 = .ok (.aload_n 0, 1) := by decide +kernel
theorem dX10_end_6 : decode cX10_end 6 = .ok (.getfield 10, 3) := by decide +kernel
theorem dX10_end_9 : decode cX10_end 9 = .ok (.getfield 70, 3) := by decide +kernel
theorem dX10_end_12 : decode cX10_end 12 = .ok (.if_icmp .le 5, 3) := by decide +kernel
theorem dX10_end_15 : decode cX10_end 15 = .ok (.iconst (-1), 1) := by decide +kernel
theorem dX10_end_16 : decode cX10_end 16 = .ok (.ireturn, 1) := by decide +kernel
theorem dX10_end_17 : decode cX10_end 17 = .ok (.aload_n 0, 1) := by decide +kernel
theorem dX10_end_18 : decode cX10_end 18 = .ok (.getfield 10, 3) := by decide +kernel
theorem dX10_end_21 : decode cX10_end 21 = .ok (.iload_n 1, 1) := by decide +kernel
theorem dX10_end_22 : decode cX10_end 22 = .ok (.putfield 70, 3) := by decide +kernel
theorem dX10_end_25 : decode cX10_end 25 = .ok (.iload_n 1, 1) := by decide +kernel
theorem dX10_end_26 : decode cX10_end 26 = .ok (.ireturn, 1) := by decide +kernel
theorem q_281 : Cond.fieldLink RX10 70 RX9 "length" "I" ∈ zTB := zmem 281 (by decide +kernel) rfl
def F_X10_end (i : Nat) (X Y : Nat → Int → Int) (R : Nat → Int → Option Nat) (a : Int) : Prop := (∀ i j, rI (X i j)) → (∀ i j, rL (Y i j)) → ((a < 0) → (if 0 ≤ a ∧ a ≤ X (i + 1) 1 then (-1) = a ∧ (X) = zU X (i + 1) 1 (a) else (-1) = -1 ∧ (X) = X)) ∧ ((¬ (a < 0)) → (((a ≤ (X (i + 1) 1)) → (∀ X3 : Nat → Int → Int, X3 = zU X (i + 1) 1 (a) → (∀ i j, rI (X3 i j)) → (if 0 ≤ a ∧ a ≤ X (i + 1) 1 then a = a ∧ (X3) = zU X (i + 1) 1 (a) else a = -1 ∧ (X3) = X))) ∧ ((¬ (a ≤ (X (i + 1) 1))) → (if 0 ≤ a ∧ a ≤ X (i + 1) 1 then (-1) = a ∧ (X) = zU X (i + 1) 1 (a) else (-1) = -1 ∧ (X) = X))))
set_option maxHeartbeats 4000000 in
set_option maxRecDepth 100000 in
theorem w_X10_end {l : Launch} {D : va_G} {cy : Nat → ClassId} {bs N : Nat} {sa : Nat → Nat} {kd len : Nat → Nat} {X Y : Nat → Int → Int} {R : Nat → Int → Option Nat} {i : Nat} (hC : zWC N kd len R i) (a : Int) (ha : rI a) (hF : F_X10_end i X Y R a) : Met l yX10_end (.code yX10_end cX10_end 2 (some .int) :: zTB) (zRm 0 0) (zPc D cy bs sa N kd len X Y R [.ref (bs + (i)), .int (zI (a))]) (zQi D cy bs N kd len (fun r st => st.2.1 = Y ∧ st.2.2 = R ∧ (if 0 ≤ a ∧ a ≤ X (i + 1) 1 then r = a ∧ (st.1) = zU X (i + 1) 1 (a) else r = -1 ∧ (st.1) = X))) 0 0 (zA bs) := by
  refine zstart (by decide) (Nat.le_of_ble_eq_true rfl) ?_
  intro p e s m args below meth c ls C hE hH hr hlk hnm hl hargs
  have hF := hF hH.2.2.1 hH.2.2.2
  have hS : va_S (zA bs) s.heap s.heap [] := va_S.rf
  have hl : lv_has ls 2 [(0, .ref (bs + (i))), (1, .int (zI (a)))] := hl
  refine lv_iload_n C.1 C.2.1 dX10_end_0 rfl (lv_at hl 1 rfl) ?_
  refine zd_if_lt C ha 15 dX10_end_1 (by decide) (fun c1 => ?_) (fun c1 => ?_)
  · have hF := hF.1 c1
    refine zd_iconst C dX10_end_15 ?_
    exact zd_iret C hr hlk hH hS (by decide) (⟨rfl, rfl, hF⟩) dX10_end_16
  · have hF := hF.2 c1
    refine lv_iload_n C.1 C.2.1 dX10_end_4 rfl (lv_at hl 1 rfl) ?_
    refine lv_aload_n C.1 C.2.1 dX10_end_5 rfl (lv_at hl 0 rfl) ?_
    refine zg10_0 C hH (zW_n hC) (zW_k hC) q_569 (zW_td hC).1 dX10_end_6 ?_
    refine zg9_1 C hH (zTold_n0 (zW_td hC).2.1) (zTold_k0 (zW_td hC).2.1) q_281 dX10_end_9 ?_
    refine zd_icmp_le C ha (hH.2.2.1 _ _) 17 dX10_end_12 (by decide) (fun c2 => ?_) (fun c2 => ?_)
    · have hF := hF.1 c2
      refine lv_aload_n C.1 C.2.1 dX10_end_17 rfl (lv_at hl 0 rfl) ?_
      refine zg10_0 C hH (zW_n hC) (zW_k hC) q_569 (zW_td hC).1 dX10_end_18 ?_
      refine lv_iload_n C.1 C.2.1 dX10_end_21 rfl (lv_at hl 1 rfl) ?_
      refine zp9_1 C hH hS (zTold_n0 (zW_td hC).2.1) (zTold_k0 (zW_td hC).2.1) q_281 ha dX10_end_22 (fun H locs hH hS => ?_)
      obtain ⟨X3, eX3⟩ : ∃ z, z = zU X (i + 1) 1 (a) := ⟨_, rfl⟩
      rw [← eX3] at hH
      have hF := hF X3 eX3 hH.2.2.1
      refine lv_iload_n C.1 C.2.1 dX10_end_25 rfl (lv_at hl 1 rfl) ?_
      exact zd_iret C hr hlk hH hS ha (⟨rfl, rfl, hF⟩) dX10_end_26
    · have hF := hF.2 c2
      refine zd_iconst C dX10_end_15 ?_
      exact zd_iret C hr hlk hH hS (by decide) (⟨rfl, rfl, hF⟩) dX10_end_16
theorem v_X10_end {X Y : Nat → Int → Int} {R : Nat → Int → Option Nat} {i : Nat} (a : Int) (ha : rI a) : F_X10_end i X Y R a := by
  unfold F_X10_end
  intro hX hY
  refine ⟨?_, ?_⟩
  · intro c1
    rw [if_neg (by omega)]
    exact ⟨rfl, rfl⟩
  intro c2
  refine ⟨?_, ?_⟩
  · intro c3
    intro X3
    intro eX3
    intro rX3
    rw [if_pos (by omega)]
    exact ⟨rfl, eX3⟩
  intro c4
  rw [if_neg (by omega)]
  exact ⟨rfl, rfl⟩
theorem c_X10_end {l : Launch} {D : va_G} {cy : Nat → ClassId} {bs N : Nat} {sa : Nat → Nat} {kd len : Nat → Nat} {X Y : Nat → Int → Int} {R : Nat → Int → Option Nat} {i : Nat} (hC : zWC N kd len R i) (a : Int) (ha : rI a) : Met l yX10_end (.code yX10_end cX10_end 2 (some .int) :: zTB) (zRm 0 0) (zPc D cy bs sa N kd len X Y R [.ref (bs + (i)), .int (zI (a))]) (zQi D cy bs N kd len (fun r st => st.2.1 = Y ∧ st.2.2 = R ∧ (if 0 ≤ a ∧ a ≤ X (i + 1) 1 then r = a ∧ (st.1) = zU X (i + 1) 1 (a) else r = -1 ∧ (st.1) = X))) 0 0 (zA bs) := w_X10_end hC a ha (v_X10_end a ha)
abbrev cX10_feed : ByteArray := prog_1_method_2_code
def yX10_feed : MethodName := ⟨RX10, "feed", "(IIIII)I"⟩
theorem dX10_feed_0 : decode cX10_feed 0 = .ok (.aload_n 0, 1) := by decide +kernel
theorem dX10_feed_1 : decode cX10_feed 1 = .ok (.getfield 10, 3) := by decide +kernel
theorem dX10_feed_4 : decode cX10_feed 4 = .ok (.getfield 70, 3) := by decide +kernel
theorem dX10_feed_7 : decode cX10_feed 7 = .ok (.bipush 20, 2) := by decide +kernel
theorem dX10_feed_9 : decode cX10_feed 9 = .ok (.iadd, 1) := by decide +kernel
theorem dX10_feed_10 : decode cX10_feed 10 = .ok (.sipush 600, 3) := by decide +kernel
theorem dX10_feed_13 : decode cX10_feed 13 = .ok (.if_icmp .le 5, 3) := by decide +kernel
theorem dX10_feed_16 : decode cX10_feed 16 = .ok (.iconst (-1), 1) := by decide +kernel
theorem dX10_feed_17 : decode cX10_feed 17 = .ok (.ireturn, 1) := by decide +kernel
theorem dX10_feed_18 : decode cX10_feed 18 = .ok (.aload_n 0, 1) := by decide +kernel
theorem dX10_feed_19 : decode cX10_feed 19 = .ok (.getfield 10, 3) := by decide +kernel
theorem dX10_feed_22 : decode cX10_feed 22 = .ok (.iload_n 1, 1) := by decide +kernel
theorem dX10_feed_23 : decode cX10_feed 23 = .ok (.invokevirtual 74, 3) := by decide +kernel
theorem dX10_feed_26 : decode cX10_feed 26 = .ok (.aload_n 0, 1) := by decide +kernel
theorem dX10_feed_27 : decode cX10_feed 27 = .ok (.getfield 10, 3) := by decide +kernel
theorem dX10_feed_30 : decode cX10_feed 30 = .ok (.iload_n 2, 1) := by decide +kernel
theorem dX10_feed_31 : decode cX10_feed 31 = .ok (.invokevirtual 74, 3) := by decide +kernel
theorem dX10_feed_34 : decode cX10_feed 34 = .ok (.aload_n 0, 1) := by decide +kernel
theorem dX10_feed_35 : decode cX10_feed 35 = .ok (.getfield 10, 3) := by decide +kernel
theorem dX10_feed_38 : decode cX10_feed 38 = .ok (.iload_n 3, 1) := by decide +kernel
theorem dX10_feed_39 : decode cX10_feed 39 = .ok (.invokevirtual 74, 3) := by decide +kernel
theorem dX10_feed_42 : decode cX10_feed 42 = .ok (.aload_n 0, 1) := by decide +kernel
theorem dX10_feed_43 : decode cX10_feed 43 = .ok (.getfield 10, 3) := by decide +kernel
theorem dX10_feed_46 : decode cX10_feed 46 = .ok (.iload 4, 2) := by decide +kernel
theorem dX10_feed_48 : decode cX10_feed 48 = .ok (.invokevirtual 74, 3) := by decide +kernel
theorem dX10_feed_51 : decode cX10_feed 51 = .ok (.aload_n 0, 1) := by decide +kernel
theorem dX10_feed_52 : decode cX10_feed 52 = .ok (.getfield 10, 3) := by decide +kernel
theorem dX10_feed_55 : decode cX10_feed 55 = .ok (.iload 5, 2) := by decide +kernel
theorem dX10_feed_57 : decode cX10_feed 57 = .ok (.invokevirtual 74, 3) := by decide +kernel
theorem dX10_feed_60 : decode cX10_feed 60 = .ok (.aload_n 0, 1) := by decide +kernel
theorem dX10_feed_61 : decode cX10_feed 61 = .ok (.getfield 10, 3) := by decide +kernel
theorem dX10_feed_64 : decode cX10_feed 64 = .ok (.getfield 70, 3) := by decide +kernel
theorem dX10_feed_67 : decode cX10_feed 67 = .ok (.ireturn, 1) := by decide +kernel
theorem q_601 : Cond.methodLink RX10 74 yX9_append ∈ zTB := zmem 601 (by decide +kernel) rfl
theorem q_602 : Cond.instanceMethod yX9_append ∈ zTB := zmem 602 (by decide +kernel) rfl
theorem q_603 : Cond.selects RX9 yX9_append yX9_append ∈ zTB := zmem 603 (by decide +kernel) rfl
theorem q_604 : Cond.code yX9_append cX9_append 3 none ∈ zTB := zmem 604 (by decide +kernel) rfl
theorem k_RX10_74 : zLv RX10 74 RX9 yX9_append cX9_append 3 none 1 := ⟨⟨q_601, q_602, q_603, q_130, q_604⟩, rfl, ⟨by decide, by decide⟩, by decide +kernel⟩
def F_X10_feed (i : Nat) (X Y : Nat → Int → Int) (R : Nat → Int → Option Nat) (a : Int) (b : Int) (g : Int) (d : Int) (f : Int) : Prop := (∀ i j, rI (X i j)) → (∀ i j, rL (Y i j)) → (rI ((X (i + 1) 1) + 20)) ∧ (((((X (i + 1) 1) + 20) ≤ 600) → ((0 ≤ X (i + 1) 1 ∧ X (i + 1) 1 ≤ 596) ∧ (∀ X4 : Nat → Int → Int, (∀ i j, rI (X4 i j)) → (cAp X (X4) (i + 1) (a) 4) → ((0 ≤ X4 (i + 1) 1 ∧ X4 (i + 1) 1 ≤ 596) ∧ (∀ X6 : Nat → Int → Int, (∀ i j, rI (X6 i j)) → (cAp X4 (X6) (i + 1) (b) 4) → ((0 ≤ X6 (i + 1) 1 ∧ X6 (i + 1) 1 ≤ 596) ∧ (∀ X8 : Nat → Int → Int, (∀ i j, rI (X8 i j)) → (cAp X6 (X8) (i + 1) (g) 4) → ((0 ≤ X8 (i + 1) 1 ∧ X8 (i + 1) 1 ≤ 596) ∧ (∀ X10 : Nat → Int → Int, (∀ i j, rI (X10 i j)) → (cAp X8 (X10) (i + 1) (d) 4) → ((0 ≤ X10 (i + 1) 1 ∧ X10 (i + 1) 1 ≤ 596) ∧ (∀ X12 : Nat → Int → Int, (∀ i j, rI (X12 i j)) → (cAp X10 (X12) (i + 1) (f) 4) → (if X (i + 1) 1 ≤ 580 then (X12 (i + 1) 1) = X (i + 1) 1 + 20 ∧ (∀ z, z ≠ i + 1 → z ≠ i + 2 → (X12) z = X z) ∧ (∀ s, s ≠ 1 → (X12) (i + 1) s = X (i + 1) s) ∧ (X12) (i + 1) 1 = X (i + 1) 1 + 20 ∧ (X12) (i + 2) = frA (X (i + 2)) (X (i + 1) 1) (a) (b) (g) (d) (f) else (X12 (i + 1) 1) = -1 ∧ (X12) = X)))))))))))) ∧ ((¬ (((X (i + 1) 1) + 20) ≤ 600)) → (if X (i + 1) 1 ≤ 580 then (-1) = X (i + 1) 1 + 20 ∧ (∀ z, z ≠ i + 1 → z ≠ i + 2 → (X) z = X z) ∧ (∀ s, s ≠ 1 → (X) (i + 1) s = X (i + 1) s) ∧ (X) (i + 1) 1 = X (i + 1) 1 + 20 ∧ (X) (i + 2) = frA (X (i + 2)) (X (i + 1) 1) (a) (b) (g) (d) (f) else (-1) = -1 ∧ (X) = X)))
set_option maxHeartbeats 4000000 in
set_option maxRecDepth 100000 in
theorem w_X10_feed {l : Launch} {D : va_G} {cy : Nat → ClassId} {bs N : Nat} {sa : Nat → Nat} {kd len : Nat → Nat} {X Y : Nat → Int → Int} {R : Nat → Int → Option Nat} {i : Nat} (hC : zWC N kd len R i) (a : Int) (ha : rI a) (b : Int) (hb : rI b) (g : Int) (hg : rI g) (d : Int) (hd : rI d) (f : Int) (hf : rI f) (hF : F_X10_feed i X Y R a b g d f) : Met l yX10_feed (.code yX10_feed cX10_feed 6 (some .int) :: zTB) (zRm 1 22) (zPc D cy bs sa N kd len X Y R [.ref (bs + (i)), .int (zI (a)), .int (zI (b)), .int (zI (g)), .int (zI (d)), .int (zI (f))]) (zQi D cy bs N kd len (fun r st => st.2.1 = Y ∧ st.2.2 = R ∧ (if X (i + 1) 1 ≤ 580 then r = X (i + 1) 1 + 20 ∧ (∀ z, z ≠ i + 1 → z ≠ i + 2 → (st.1) z = X z) ∧ (∀ s, s ≠ 1 → (st.1) (i + 1) s = X (i + 1) s) ∧ (st.1) (i + 1) 1 = X (i + 1) 1 + 20 ∧ (st.1) (i + 2) = frA (X (i + 2)) (X (i + 1) 1) (a) (b) (g) (d) (f) else r = -1 ∧ (st.1) = X))) 0 0 (zA bs) := by
  refine zstart (by decide) (Nat.le_of_ble_eq_true rfl) ?_
  intro p e s m args below meth c ls C hE hH hr hlk hnm hl hargs
  have hF := hF hH.2.2.1 hH.2.2.2
  have hS : va_S (zA bs) s.heap s.heap [] := va_S.rf
  have hl : lv_has ls 6 [(0, .ref (bs + (i))), (1, .int (zI (a))), (2, .int (zI (b))), (3, .int (zI (g))), (4, .int (zI (d))), (5, .int (zI (f)))] := hl
  refine lv_aload_n C.1 C.2.1 dX10_feed_0 rfl (lv_at hl 0 rfl) ?_
  refine zg10_0 C hH (zW_n hC) (zW_k hC) q_569 (zW_td hC).1 dX10_feed_1 ?_
  refine zg9_1 C hH (zTold_n0 (zW_td hC).2.1) (zTold_k0 (zW_td hC).2.1) q_281 dX10_feed_4 ?_
  refine zd_bipush C (by decide) dX10_feed_7 ?_
  refine zd_iadd C dX10_feed_9 ?_
  refine zd_sipush C (by decide) dX10_feed_10 ?_
  obtain ⟨o2, hF⟩ := hF
  refine zd_icmp_le C o2 (by decide) 18 dX10_feed_13 (by decide) (fun c1 => ?_) (fun c1 => ?_)
  · have hF := hF.1 c1
    refine lv_aload_n C.1 C.2.1 dX10_feed_18 rfl (lv_at hl 0 rfl) ?_
    refine zg10_0 C hH (zW_n hC) (zW_k hC) q_569 (zW_td hC).1 dX10_feed_19 ?_
    refine lv_iload_n C.1 C.2.1 dX10_feed_22 rfl (lv_at hl 1 rfl) ?_
    obtain ⟨o3, hF⟩ := hF
    refine zgov (zrunV (As := [.int (zI (a))]) (rest := []) C hE hH hS hl.1 (c_X9_append (l := l) (zW_td hC).2.1 (a) ha o3) k_RX10_74 ⟨Nat.le_of_ble_eq_true rfl, Nat.le_of_ble_eq_true rfl⟩ (zTold_n0 (zW_td hC).2.1) (zTold_k0 (zW_td hC).2.1) rfl rfl rfl (Nat.le_of_ble_eq_true rfl) dX10_feed_23 ⟨Nat.zero_le _, Nat.zero_le _⟩) hS (fun X4 Yq Rq H locs hq hH hS => ?_)
    obtain ⟨h9Y, h9R, hq⟩ := hq
    dsimp only at h9Y h9R
    rw [h9Y, h9R] at hH
    have hF := hF X4 hH.2.2.1 hq
    refine lv_aload_n C.1 C.2.1 dX10_feed_26 rfl (lv_at hl 0 rfl) ?_
    refine zg10_0 C hH (zW_n hC) (zW_k hC) q_569 (zW_td hC).1 dX10_feed_27 ?_
    refine lv_iload_n C.1 C.2.1 dX10_feed_30 rfl (lv_at hl 2 rfl) ?_
    obtain ⟨o5, hF⟩ := hF
    refine zgov (zrunV (As := [.int (zI (b))]) (rest := []) C hE hH hS hl.1 (c_X9_append (l := l) (zW_td hC).2.1 (b) hb o5) k_RX10_74 ⟨Nat.le_of_ble_eq_true rfl, Nat.le_of_ble_eq_true rfl⟩ (zTold_n0 (zW_td hC).2.1) (zTold_k0 (zW_td hC).2.1) rfl rfl rfl (Nat.le_of_ble_eq_true rfl) dX10_feed_31 ⟨Nat.zero_le _, Nat.zero_le _⟩) hS (fun X6 Yq Rq H locs hq hH hS => ?_)
    obtain ⟨h9Y, h9R, hq⟩ := hq
    dsimp only at h9Y h9R
    rw [h9Y, h9R] at hH
    have hF := hF X6 hH.2.2.1 hq
    refine lv_aload_n C.1 C.2.1 dX10_feed_34 rfl (lv_at hl 0 rfl) ?_
    refine zg10_0 C hH (zW_n hC) (zW_k hC) q_569 (zW_td hC).1 dX10_feed_35 ?_
    refine lv_iload_n C.1 C.2.1 dX10_feed_38 rfl (lv_at hl 3 rfl) ?_
    obtain ⟨o7, hF⟩ := hF
    refine zgov (zrunV (As := [.int (zI (g))]) (rest := []) C hE hH hS hl.1 (c_X9_append (l := l) (zW_td hC).2.1 (g) hg o7) k_RX10_74 ⟨Nat.le_of_ble_eq_true rfl, Nat.le_of_ble_eq_true rfl⟩ (zTold_n0 (zW_td hC).2.1) (zTold_k0 (zW_td hC).2.1) rfl rfl rfl (Nat.le_of_ble_eq_true rfl) dX10_feed_39 ⟨Nat.zero_le _, Nat.zero_le _⟩) hS (fun X8 Yq Rq H locs hq hH hS => ?_)
    obtain ⟨h9Y, h9R, hq⟩ := hq
    dsimp only at h9Y h9R
    rw [h9Y, h9R] at hH
    have hF := hF X8 hH.2.2.1 hq
    refine lv_aload_n C.1 C.2.1 dX10_feed_42 rfl (lv_at hl 0 rfl) ?_
    refine zg10_0 C hH (zW_n hC) (zW_k hC) q_569 (zW_td hC).1 dX10_feed_43 ?_
    refine lv_iload C.1 C.2.1 dX10_feed_46 (lv_at hl 4 rfl) ?_
    obtain ⟨o9, hF⟩ := hF
    refine zgov (zrunV (As := [.int (zI (d))]) (rest := []) C hE hH hS hl.1 (c_X9_append (l := l) (zW_td hC).2.1 (d) hd o9) k_RX10_74 ⟨Nat.le_of_ble_eq_true rfl, Nat.le_of_ble_eq_true rfl⟩ (zTold_n0 (zW_td hC).2.1) (zTold_k0 (zW_td hC).2.1) rfl rfl rfl (Nat.le_of_ble_eq_true rfl) dX10_feed_48 ⟨Nat.zero_le _, Nat.zero_le _⟩) hS (fun X10 Yq Rq H locs hq hH hS => ?_)
    obtain ⟨h9Y, h9R, hq⟩ := hq
    dsimp only at h9Y h9R
    rw [h9Y, h9R] at hH
    have hF := hF X10 hH.2.2.1 hq
    refine lv_aload_n C.1 C.2.1 dX10_feed_51 rfl (lv_at hl 0 rfl) ?_
    refine zg10_0 C hH (zW_n hC) (zW_k hC) q_569 (zW_td hC).1 dX10_feed_52 ?_
    refine lv_iload C.1 C.2.1 dX10_feed_55 (lv_at hl 5 rfl) ?_
    obtain ⟨o11, hF⟩ := hF
    refine zgov (zrunV (As := [.int (zI (f))]) (rest := []) C hE hH hS hl.1 (c_X9_append (l := l) (zW_td hC).2.1 (f) hf o11) k_RX10_74 ⟨Nat.le_of_ble_eq_true rfl, Nat.le_of_ble_eq_true rfl⟩ (zTold_n0 (zW_td hC).2.1) (zTold_k0 (zW_td hC).2.1) rfl rfl rfl (Nat.le_of_ble_eq_true rfl) dX10_feed_57 ⟨Nat.zero_le _, Nat.zero_le _⟩) hS (fun X12 Yq Rq H locs hq hH hS => ?_)
    obtain ⟨h9Y, h9R, hq⟩ := hq
    dsimp only at h9Y h9R
    rw [h9Y, h9R] at hH
    have hF := hF X12 hH.2.2.1 hq
    refine lv_aload_n C.1 C.2.1 dX10_feed_60 rfl (lv_at hl 0 rfl) ?_
    refine zg10_0 C hH (zW_n hC) (zW_k hC) q_569 (zW_td hC).1 dX10_feed_61 ?_
    refine zg9_1 C hH (zTold_n0 (zW_td hC).2.1) (zTold_k0 (zW_td hC).2.1) q_281 dX10_feed_64 ?_
    exact zd_iret C hr hlk hH hS (hH.2.2.1 _ _) (⟨rfl, rfl, hF⟩) dX10_feed_67
  · have hF := hF.2 c1
    refine zd_iconst C dX10_feed_16 ?_
    exact zd_iret C hr hlk hH hS (by decide) (⟨rfl, rfl, hF⟩) dX10_feed_17
theorem v_X10_feed {X Y : Nat → Int → Int} {R : Nat → Int → Option Nat} {i : Nat} (a : Int) (ha : rI a) (b : Int) (hb : rI b) (g : Int) (hg : rI g) (d : Int) (hd : rI d) (f : Int) (hf : rI f) (hp : 0 ≤ X (i + 1) 1 ∧ X (i + 1) 1 ≤ 600) : F_X10_feed i X Y R a b g d f := by
  unfold F_X10_feed
  intro hX hY
  obtain ⟨p0, p1⟩ := hp
  refine ⟨?_, ?_⟩
  · exact ⟨by omega, by omega⟩
  refine ⟨?_, ?_⟩
  · intro c1
    refine ⟨?_, ?_⟩
    · first | omega | exact ⟨by omega, by omega⟩ | decide | assumption | exact ⟨by omega, by omega, by omega⟩ | exact ⟨by decide, by decide⟩
    intro X4
    intro rX4
    intro h1
    obtain ⟨f1, s1, l1, x1⟩ := h1
    have l1 : X4 (i + 1) 1 = X (i + 1) 1 + 4 := by omega
    refine ⟨?_, ?_⟩
    · first | omega | exact ⟨by omega, by omega⟩ | decide | assumption | exact ⟨by omega, by omega, by omega⟩ | exact ⟨by decide, by decide⟩
    intro X6
    intro rX6
    intro h2
    obtain ⟨f2, s2, l2, x2⟩ := h2
    have l2 : X6 (i + 1) 1 = X (i + 1) 1 + 8 := by omega
    refine ⟨?_, ?_⟩
    · first | omega | exact ⟨by omega, by omega⟩ | decide | assumption | exact ⟨by omega, by omega, by omega⟩ | exact ⟨by decide, by decide⟩
    intro X8
    intro rX8
    intro h3
    obtain ⟨f3, s3, l3, x3⟩ := h3
    have l3 : X8 (i + 1) 1 = X (i + 1) 1 + 12 := by omega
    refine ⟨?_, ?_⟩
    · first | omega | exact ⟨by omega, by omega⟩ | decide | assumption | exact ⟨by omega, by omega, by omega⟩ | exact ⟨by decide, by decide⟩
    intro X10
    intro rX10
    intro h4
    obtain ⟨f4, s4, l4, x4⟩ := h4
    have l4 : X10 (i + 1) 1 = X (i + 1) 1 + 16 := by omega
    refine ⟨?_, ?_⟩
    · first | omega | exact ⟨by omega, by omega⟩ | decide | assumption | exact ⟨by omega, by omega, by omega⟩ | exact ⟨by decide, by decide⟩
    intro X12
    intro rX12
    intro h5
    obtain ⟨f5, s5, l5, x5⟩ := h5
    have l5 : X12 (i + 1) 1 = X (i + 1) 1 + 20 := by omega
    rw [if_pos (by omega)]
    refine ⟨l5, fun z a b => by rw [f5 z a b, f4 z a b, f3 z a b, f2 z a b, f1 z a b], fun s h => by rw [s5 s h, s4 s h, s3 s h, s2 s h, s1 s h], l5, ?_⟩
    have x5 : X12 (i + 2) = _ := x5
    have x4 : X10 (i + 2) = _ := x4
    have x3 : X8 (i + 2) = _ := x3
    have x2 : X6 (i + 2) = _ := x2
    have x1 : X4 (i + 2) = _ := x1
    rw [x5, show X10 (i + 1 + 1) = X10 (i + 2) from rfl, x4, show X8 (i + 1 + 1) = X8 (i + 2) from rfl, x3, show X6 (i + 1 + 1) = X6 (i + 2) from rfl, x2, show X4 (i + 1 + 1) = X4 (i + 2) from rfl, x1, l4, l3, l2, l1]
    rfl
  intro c2
  rw [if_neg (by omega)]
  exact ⟨rfl, rfl⟩
theorem c_X10_feed {l : Launch} {D : va_G} {cy : Nat → ClassId} {bs N : Nat} {sa : Nat → Nat} {kd len : Nat → Nat} {X Y : Nat → Int → Int} {R : Nat → Int → Option Nat} {i : Nat} (hC : zWC N kd len R i) (a : Int) (ha : rI a) (b : Int) (hb : rI b) (g : Int) (hg : rI g) (d : Int) (hd : rI d) (f : Int) (hf : rI f) (hp : 0 ≤ X (i + 1) 1 ∧ X (i + 1) 1 ≤ 600) : Met l yX10_feed (.code yX10_feed cX10_feed 6 (some .int) :: zTB) (zRm 1 22) (zPc D cy bs sa N kd len X Y R [.ref (bs + (i)), .int (zI (a)), .int (zI (b)), .int (zI (g)), .int (zI (d)), .int (zI (f))]) (zQi D cy bs N kd len (fun r st => st.2.1 = Y ∧ st.2.2 = R ∧ (if X (i + 1) 1 ≤ 580 then r = X (i + 1) 1 + 20 ∧ (∀ z, z ≠ i + 1 → z ≠ i + 2 → (st.1) z = X z) ∧ (∀ s, s ≠ 1 → (st.1) (i + 1) s = X (i + 1) s) ∧ (st.1) (i + 1) 1 = X (i + 1) 1 + 20 ∧ (st.1) (i + 2) = frA (X (i + 2)) (X (i + 1) 1) (a) (b) (g) (d) (f) else r = -1 ∧ (st.1) = X))) 0 0 (zA bs) := w_X10_feed hC a ha b hb g hg d hd f hf (v_X10_feed a ha b hb g hg d hd f hf hp)
