def lQ (σ : SV) (x : Int64) : XF := fun r M' => r = some (.long x) ∧ RR σ M' ∧ M' 0 28 = 0
theorem flq {σ : SV} {x y : Int64} {M' : MM} (e : y = x) (h : RR σ M') (hg : M' 0 28 = 0) : lQ σ y (some (.long x)) M' := by
  subst e
  exact ⟨rfl, h, hg⟩
theorem lc_0 : ∀ Q, Q < 21 → lg_cmp (nI Q).toInt64 0 = b2i (!decide (Q = 0)) := by decide +kernel
theorem lc_n : ∀ Q, Q < 21 → Q ≠ 0 → (nI Q).toInt64 ≠ 0 := by decide +kernel
theorem lc_m : ∀ P, P < 21 → ∀ Q, Q < 21 → Q ≠ 0 → (nI P).toInt64 - (nI P).toInt64 / (nI Q).toInt64 * (nI Q).toInt64 = (nI (P % Q)).toInt64 := by decide +kernel
theorem lc_1 : ∀ a, a < 21 → (nI a).toInt64 + 1 = (nI (a + 1)).toInt64 := by decide +kernel
theorem lc_z : ∀ a, a < 21 → (nI a).toInt64 + 0 = (nI a).toInt64 := by decide +kernel
theorem lc_d : ∀ C, C < 21 → ∀ n, n < 21 → n ≠ 0 → (nI C).toInt64 / (nI (Nat.gcd C n)).toInt64 = (nI C / nI (cdF C n (n - 1))).toInt64 ∧ (nI n).toInt64 / (nI (Nat.gcd C n)).toInt64 = (nI n / nI (cdF C n (n - 1))).toInt64 ∧ Nat.gcd C n ≠ 0 ∧ Nat.gcd C n < 21 := by decide +kernel
theorem gcd_st (P Q : Nat) : Nat.gcd Q (P % Q) = Nat.gcd P Q := by rw [Nat.gcd_comm Q, ← Nat.gcd_rec, Nat.gcd_comm]
set_option maxRecDepth 100000 in
set_option maxHeartbeats 800000 in
theorem c_X12_chance (t : CT) {σ : SV} {M : MM} (h : RR σ M) (hg : M 0 28 = 0) (x1 x2 x3 : Int32)  : XMet (wR t) yX12_chance cX12_chance 13 (some .long) 66 [.ref (t.1 0), .int x1, .int x2, .int x3] M (lQ σ (a_chance σ x1 x2 x3)) := by
  refine x_met RX12 (by decide) rfl (Nat.le_of_ble_eq_true rfl) (fun κ C X E => ?_)
  refine x_L (L' := [(0, .ref (t.1 0)), (1, .int x1), (2, .int x2), (3, .int x3)]) rfl ?_
  have hn6 := rr_n6 h
  have hN6 := h.1.1
  have hq := rr_q h
  have hB := h.1.2.1
  refine x_iload_n (pc := 0) C 2 dX12_chance_0 rfl ?_
  refine x_i2l (pc := 1) C dX12_chance_1 ?_
  refine x_lconst (pc := 2) (v := 1) C dX12_chance_2 rfl ?_
  refine x_ldc2 (pc := 3) (v := 20) C q45_2 dX12_chance_3 ?_
  refine x_callS (pc := 6) C E [.long (Int32.toInt64 x2), .long 1, .long 20] [] (c_X12_in t _ x2 (A := 1) (B := 20) (by decide) (by decide)) m_X12_in q13_6 rfl (by decide) (Nat.le_of_ble_eq_true rfl) dX12_chance_6 rfl (k_I ?_)
  refine x_ifb_eq (pc := 9) C 22 dX12_chance_9 (by decide) (fun h9 => ?_) (fun h9 => ?_)
  · refine x_ldc2 (pc := 22) (v := (-4611686018427387904)) C q45_3 dX12_chance_22 ?_
    exact x_lret (pc := 25) C X dX12_chance_25 (flq (by
          unfold a_chance
          refine (if_pos ?_).trans ?_
          · ((try simp only [inB_t, inB_f, i_lt, i_le, i_eq, ne_eq, Bool.not_eq_true, Bool.not_eq_false, hpB, decide_eq_true_eq, decide_eq_false_iff_not, li_0, li_1, li_2, li_3, li_4, li_5, li_6, li_7, li_8, li_9, li_10, li_20, li_40, li_99, li_100, li_255, li_899, li_999, li_m1, li_m2, li_m3, li_m4, li_m11, li_m12, li_m13, li_m14, li_m100] at h9 ⊢) <;> omega)
          · rfl) h hg)
  · refine x_iload_n (pc := 12) C 3 dX12_chance_12 rfl ?_
    refine x_i2l (pc := 13) C dX12_chance_13 ?_
    refine x_lconst (pc := 14) (v := 0) C dX12_chance_14 rfl ?_
    refine x_lconst (pc := 15) (v := 1) C dX12_chance_15 rfl ?_
    refine x_callS (pc := 16) C E [.long (Int32.toInt64 x3), .long 0, .long 1] [] (c_X12_inB t _ x3 (n := 2) (by decide) (by decide)) m_X12_in q13_6 rfl (by decide) (Nat.le_of_ble_eq_true rfl) dX12_chance_16 rfl (k_I ?_)
    refine x_ifb_ne (pc := 19) C 26 dX12_chance_19 (by decide) (fun h19 => ?_) (fun h19 => ?_)
    · have hn21 : inB x2 21 = true := (by ((try simp only [inB_t, inB_f, i_lt, i_le, i_eq, ne_eq, Bool.not_eq_true, Bool.not_eq_false, hpB, decide_eq_true_eq, decide_eq_false_iff_not, li_0, li_1, li_2, li_3, li_4, li_5, li_6, li_7, li_8, li_9, li_10, li_20, li_40, li_99, li_100, li_255, li_899, li_999, li_m1, li_m2, li_m3, li_m4, li_m11, li_m12, li_m13, li_m14, li_m100] at h9 h19 ⊢) <;> omega))
      have hn1 : 1 ≤ x2.toInt := (by ((try simp only [inB_t, inB_f, i_lt, i_le, i_eq, ne_eq, Bool.not_eq_true, Bool.not_eq_false, hpB, decide_eq_true_eq, decide_eq_false_iff_not, li_0, li_1, li_2, li_3, li_4, li_5, li_6, li_7, li_8, li_9, li_10, li_20, li_40, li_99, li_100, li_255, li_899, li_999, li_m1, li_m2, li_m3, li_m4, li_m11, li_m12, li_m13, li_m14, li_m100] at h9 h19 ⊢) <;> omega))
      obtain ⟨nn, hnn, enn⟩ := inB_of hn21 (by omega)
      have htnn := nI_toInt (n := nn) (by omega)
      have honn := oN_nI (n := nn) (by omega)
      subst enn
      rw [htnn] at hn1
      refine x_aload_n (pc := 26) C 0 dX12_chance_26 rfl ?_
      refine x_iconst (pc := 27) (v := 1) C dX12_chance_27 rfl ?_
      refine x_callV (pc := 28) C E [.int 1] [] (c_X12_safe t h (gn := 0) hg 1) m_X12_safe q35_2 xo_M rfl (by first | decide | omega) (Nat.le_of_ble_eq_true rfl) dX12_chance_28 rfl (k_I ?_)
      refine x_eq (show _ = vSafe (sV (σ)) 1 from vSafeG_0 _ _) ?_
      refine x_eq (show vSafe (sV (σ)) 1 = vOr (sV σ) (bt (sRs σ)) from (vOr_safe hn6).symm) ?_
      refine x_istore (pc := 31) (L' := [(4, .int (vOr (sV σ) (bt (sRs σ)))), (0, .ref (t.1 0)), (1, .int x1), (2, .int (nI nn)), (3, .int x3)]) C dX12_chance_31 (by decide) rfl ?_
      refine x_lconst (pc := 33) (v := 0) C dX12_chance_33 rfl ?_
      refine x_lstore (pc := 34) (L' := [(5, .long 0), (4, .int (vOr (sV σ) (bt (sRs σ)))), (0, .ref (t.1 0)), (1, .int x1), (2, .int (nI nn)), (3, .int x3)]) C dX12_chance_34 (by decide) rfl ?_
      refine x_iconst (pc := 36) (v := 0) C dX12_chance_36 rfl ?_
      refine x_istore (pc := 37) (L' := [(7, .int 0), (5, .long 0), (4, .int (vOr (sV σ) (bt (sRs σ)))), (0, .ref (t.1 0)), (1, .int x1), (2, .int (nI nn)), (3, .int x3)]) C dX12_chance_37 (by decide) rfl ?_
      have loop39 : ∀ (k q : Nat) (y : Int32) (Mx : MM) (z : Int64) , q + k = nn → y = nI q → (RR σ Mx ∧ Mx 0 28 = 0) → z = (nI (chF σ x1 q)).toInt64 → XV κ (xP (wR t) Mx) 39 [(7, .int y), (5, .long z), (4, .int (vOr (sV σ) (bt (sRs σ)))), (0, .ref (t.1 0)), (1, .int x1), (2, .int (nI nn)), (3, .int x3)] [] := by
        intro k
        induction k with
          | zero =>
            intro q y Mx z hcnt ey eMx ez
            subst ey
            obtain rfl : nn = q := by omega
            refine x_iload (pc := 39) C 0 dX12_chance_39 rfl ?_
            refine x_iload_n (pc := 41) C 5 dX12_chance_41 rfl ?_
            refine x_icmp_ge_t (pc := 42) C 88 dX12_chance_42 (by decide) (nI_le (by omega) (by omega)) ?_
            refine x_lload (pc := 88) C 1 dX12_chance_88 rfl ?_
            refine x_lstore (pc := 90) (L' := [(7, .long z), (5, .long z), (4, .int (vOr (sV σ) (bt (sRs σ)))), (0, .ref (t.1 0)), (1, .int x1), (2, .int (nI nn)), (3, .int x3)]) C dX12_chance_90 (by decide) rfl ?_
            refine x_iload_n (pc := 92) C 5 dX12_chance_92 rfl ?_
            refine x_i2l (pc := 93) C dX12_chance_93 ?_
            refine x_lstore (pc := 94) (L' := [(9, .long (Int32.toInt64 (nI nn))), (7, .long z), (5, .long z), (4, .int (vOr (sV σ) (bt (sRs σ)))), (0, .ref (t.1 0)), (1, .int x1), (2, .int (nI nn)), (3, .int x3)]) C dX12_chance_94 (by decide) rfl ?_
            have loop96 : ∀ (k i : Nat) (P Q : Nat) (zp zq : Int64) , i + k = nn → zp = (nI P).toInt64 → zq = (nI Q).toInt64 → P < 21 → Q ≤ k → Nat.gcd P Q = Nat.gcd (chF σ x1 nn) nn → XV κ (xP (wR t) Mx) 96 [(9, .long zq), (7, .long zp), (5, .long z), (4, .int (vOr (sV σ) (bt (sRs σ)))), (0, .ref (t.1 0)), (1, .int x1), (2, .int (nI nn)), (3, .int x3)] [] := by
              intro k
              induction k with
                | zero =>
                  intro i  P Q zp zq hcnt  ezp ezq hP hQ hG
                  obtain rfl : nn = i := by omega
                  refine x_lload (pc := 96) C 0 dX12_chance_96 rfl ?_
                  refine x_lconst (pc := 98) (v := 0) C dX12_chance_98 rfl ?_
                  refine x_lcmp (pc := 99) C dX12_chance_99 ?_
                  refine x_eq (show lg_cmp zq 0 = b2i (!decide (Q = 0)) from (by rw [ezq]; exact lc_0 Q (by omega))) ?_
                  refine x_if_eq_t (pc := 100) C 121 dX12_chance_100 (by decide) (by rw [show Q = 0 by omega]; rfl) ?_
                  have hQ0 : Q = 0 := by omega
                  have hPG : P = Nat.gcd (chF σ x1 nn) nn := by rw [← hG, hQ0, Nat.gcd_zero_right]
                  refine x_iload_n (pc := 121) C 7 dX12_chance_121 rfl ?_
                  refine x_if_ne (pc := 122) C 133 dX12_chance_122 (by decide) (fun h122 => ?_) (fun h122 => ?_)
                  · refine x_iload_n (pc := 133) C 6 dX12_chance_133 rfl ?_
                    refine x_i2l (pc := 134) C dX12_chance_134 ?_
                    refine x_lload (pc := 135) C 1 dX12_chance_135 rfl ?_
                    refine x_ldiv (pc := 137) C dX12_chance_137 (by rw [ezp, hPG]; exact lc_n _ (lc_d _ (by have := chF_le σ x1 nn; omega) _ hnn (by omega)).2.2.2 (lc_d _ (by have := chF_le σ x1 nn; omega) _ hnn (by omega)).2.2.1) ?_
                    exact x_lret (pc := 138) C X dX12_chance_138 (flq (by
                          unfold a_chance
                          simp only [honn]
                          refine (if_neg (by ((try simp only [inB_t, inB_f, i_lt, i_le, i_eq, ne_eq, Bool.not_eq_true, Bool.not_eq_false, hpB, decide_eq_true_eq, decide_eq_false_iff_not, li_0, li_1, li_2, li_3, li_4, li_5, li_6, li_7, li_8, li_9, li_10, li_20, li_40, li_99, li_100, li_255, li_899, li_999, li_m1, li_m2, li_m3, li_m4, li_m11, li_m12, li_m13, li_m14, li_m100] at h9 h19 htnn h122 ⊢) <;> omega))).trans ?_
                          refine (if_neg h122).trans ?_
                          rw [ezp, hPG]
                          exact (lc_d _ (by have := chF_le σ x1 nn; omega) _ hnn (by omega)).2.1.symm) eMx.1 eMx.2)
                  · refine x_lload (pc := 125) C 2 dX12_chance_125 rfl ?_
                    refine x_lload (pc := 127) C 1 dX12_chance_127 rfl ?_
                    refine x_ldiv (pc := 129) C dX12_chance_129 (by rw [ezp, hPG]; exact lc_n _ (lc_d _ (by have := chF_le σ x1 nn; omega) _ hnn (by omega)).2.2.2 (lc_d _ (by have := chF_le σ x1 nn; omega) _ hnn (by omega)).2.2.1) ?_
                    refine x_goto (pc := 130) C 138 dX12_chance_130 (by decide) ?_
                    exact x_lret (pc := 138) C X dX12_chance_138 (flq (by
                          unfold a_chance
                          simp only [honn]
                          refine (if_neg (by ((try simp only [inB_t, inB_f, i_lt, i_le, i_eq, ne_eq, Bool.not_eq_true, Bool.not_eq_false, hpB, decide_eq_true_eq, decide_eq_false_iff_not, li_0, li_1, li_2, li_3, li_4, li_5, li_6, li_7, li_8, li_9, li_10, li_20, li_40, li_99, li_100, li_255, li_899, li_999, li_m1, li_m2, li_m3, li_m4, li_m11, li_m12, li_m13, li_m14, li_m100] at h9 h19 htnn h122 ⊢) <;> omega))).trans ?_
                          refine (if_pos h122).trans ?_
                          rw [ez, ezp, hPG]
                          exact (lc_d _ (by have := chF_le σ x1 nn; omega) _ hnn (by omega)).1.symm) eMx.1 eMx.2)
                | succ k ih =>
                  intro i  P Q zp zq hcnt  ezp ezq hP hQ hG
                  have hi96 : i < nn := by omega
                  refine x_lload (pc := 96) C 0 dX12_chance_96 rfl ?_
                  refine x_lconst (pc := 98) (v := 0) C dX12_chance_98 rfl ?_
                  refine x_lcmp (pc := 99) C dX12_chance_99 ?_
                  refine x_eq (show lg_cmp zq 0 = b2i (!decide (Q = 0)) from (by rw [ezq]; exact lc_0 Q (by omega))) ?_
                  refine x_ifb_eq (pc := 100) C 121 dX12_chance_100 (by decide) (fun h100 => ?_) (fun h100 => ?_)
                  · have hQ0 : Q = 0 := by
                      by_cases g : Q = 0
                      · exact g
                      · rw [decide_eq_false g] at h100; cases h100
                    have hPG : P = Nat.gcd (chF σ x1 nn) nn := by rw [← hG, hQ0, Nat.gcd_zero_right]
                    refine x_iload_n (pc := 121) C 7 dX12_chance_121 rfl ?_
                    refine x_if_ne (pc := 122) C 133 dX12_chance_122 (by decide) (fun h122 => ?_) (fun h122 => ?_)
                    · refine x_iload_n (pc := 133) C 6 dX12_chance_133 rfl ?_
                      refine x_i2l (pc := 134) C dX12_chance_134 ?_
                      refine x_lload (pc := 135) C 1 dX12_chance_135 rfl ?_
                      refine x_ldiv (pc := 137) C dX12_chance_137 (by rw [ezp, hPG]; exact lc_n _ (lc_d _ (by have := chF_le σ x1 nn; omega) _ hnn (by omega)).2.2.2 (lc_d _ (by have := chF_le σ x1 nn; omega) _ hnn (by omega)).2.2.1) ?_
                      exact x_lret (pc := 138) C X dX12_chance_138 (flq (by
                            unfold a_chance
                            simp only [honn]
                            refine (if_neg (by ((try simp only [inB_t, inB_f, i_lt, i_le, i_eq, ne_eq, Bool.not_eq_true, Bool.not_eq_false, hpB, decide_eq_true_eq, decide_eq_false_iff_not, li_0, li_1, li_2, li_3, li_4, li_5, li_6, li_7, li_8, li_9, li_10, li_20, li_40, li_99, li_100, li_255, li_899, li_999, li_m1, li_m2, li_m3, li_m4, li_m11, li_m12, li_m13, li_m14, li_m100] at h9 h19 htnn h100 h122 ⊢) <;> omega))).trans ?_
                            refine (if_neg h122).trans ?_
                            rw [ezp, hPG]
                            exact (lc_d _ (by have := chF_le σ x1 nn; omega) _ hnn (by omega)).2.1.symm) eMx.1 eMx.2)
                    · refine x_lload (pc := 125) C 2 dX12_chance_125 rfl ?_
                      refine x_lload (pc := 127) C 1 dX12_chance_127 rfl ?_
                      refine x_ldiv (pc := 129) C dX12_chance_129 (by rw [ezp, hPG]; exact lc_n _ (lc_d _ (by have := chF_le σ x1 nn; omega) _ hnn (by omega)).2.2.2 (lc_d _ (by have := chF_le σ x1 nn; omega) _ hnn (by omega)).2.2.1) ?_
                      refine x_goto (pc := 130) C 138 dX12_chance_130 (by decide) ?_
                      exact x_lret (pc := 138) C X dX12_chance_138 (flq (by
                            unfold a_chance
                            simp only [honn]
                            refine (if_neg (by ((try simp only [inB_t, inB_f, i_lt, i_le, i_eq, ne_eq, Bool.not_eq_true, Bool.not_eq_false, hpB, decide_eq_true_eq, decide_eq_false_iff_not, li_0, li_1, li_2, li_3, li_4, li_5, li_6, li_7, li_8, li_9, li_10, li_20, li_40, li_99, li_100, li_255, li_899, li_999, li_m1, li_m2, li_m3, li_m4, li_m11, li_m12, li_m13, li_m14, li_m100] at h9 h19 htnn h100 h122 ⊢) <;> omega))).trans ?_
                            refine (if_pos h122).trans ?_
                            rw [ez, ezp, hPG]
                            exact (lc_d _ (by have := chF_le σ x1 nn; omega) _ hnn (by omega)).1.symm) eMx.1 eMx.2)
                  · have hQn : Q ≠ 0 := fun e => by rw [decide_eq_true e] at h100; cases h100
                    refine x_lload (pc := 103) C 1 dX12_chance_103 rfl ?_
                    refine x_lload (pc := 105) C 0 dX12_chance_105 rfl ?_
                    refine x_lrem (pc := 107) C dX12_chance_107 (by rw [ezq]; exact lc_n Q (by omega) hQn) ?_
                    refine x_lstore (pc := 108) (L' := [(11, .long (zp - zp / zq * zq)), (9, .long zq), (7, .long zp), (5, .long z), (4, .int (vOr (sV σ) (bt (sRs σ)))), (0, .ref (t.1 0)), (1, .int x1), (2, .int (nI nn)), (3, .int x3)]) C dX12_chance_108 (by decide) rfl ?_
                    refine x_lload (pc := 110) C 1 dX12_chance_110 rfl ?_
                    refine x_lstore (pc := 112) (L' := [(7, .long zq), (11, .long (zp - zp / zq * zq)), (9, .long zq), (5, .long z), (4, .int (vOr (sV σ) (bt (sRs σ)))), (0, .ref (t.1 0)), (1, .int x1), (2, .int (nI nn)), (3, .int x3)]) C dX12_chance_112 (by decide) rfl ?_
                    refine x_lload (pc := 114) C 1 dX12_chance_114 rfl ?_
                    refine x_lstore (pc := 116) (L' := [(9, .long (zp - zp / zq * zq)), (7, .long zq), (11, .long (zp - zp / zq * zq)), (5, .long z), (4, .int (vOr (sV σ) (bt (sRs σ)))), (0, .ref (t.1 0)), (1, .int x1), (2, .int (nI nn)), (3, .int x3)]) C dX12_chance_116 (by decide) rfl ?_
                    refine x_goto (pc := 118) C 96 dX12_chance_118 (by decide) ?_
                    refine x_sub [0, 1, 3, 4, 5, 6, 7, 8] rfl ?_
                    exact ih (i + 1) Q (P % Q) _ _ (by omega) ezq (by rw [ezp, ezq]; exact lc_m P hP Q (by omega) hQn) (by omega) (by have := Nat.mod_lt P (Nat.pos_of_ne_zero hQn); omega) ((gcd_st P Q).trans hG)
            refine x_sub [0, 1, 2, 3, 4, 5, 6, 7] rfl ?_
            exact loop96 nn 0 (chF σ x1 nn) nn _ _ (by omega) ez rfl (by have := chF_le σ x1 nn; omega) (Nat.le_refl _) rfl
          | succ k ih =>
            intro q y Mx z hcnt ey eMx ez
            subst ey
            have hi39 : q < nn := by omega
            refine x_iload (pc := 39) C 0 dX12_chance_39 rfl ?_
            refine x_iload_n (pc := 41) C 5 dX12_chance_41 rfl ?_
            refine x_icmp_ge_f (pc := 42) C 88 dX12_chance_42 (by decide) (nI_ge (by omega) (by omega)) ?_
            refine x_aload_n (pc := 45) C 3 dX12_chance_45 rfl ?_
            refine x_aload_n (pc := 46) C 3 dX12_chance_46 rfl ?_
            refine x_iload_n (pc := 47) C 4 dX12_chance_47 rfl ?_
            refine x_iload (pc := 48) C 0 dX12_chance_48 rfl ?_
            refine x_iadd (pc := 50) C dX12_chance_50 ?_
            refine x_callV (pc := 51) C E [.int (x1 + (nI q))] [.ref (t.1 0)] (c_X12_goneBy t eMx.1 (x1 + (nI q))) m_X12_goneBy q44_9 xo_M rfl (by first | decide | omega) (Nat.le_of_ble_eq_true rfl) dX12_chance_51 rfl (fun r M51 hc51 => ?_)
            obtain ⟨rfl, hS51⟩ := hc51
            show XV κ (xP (wR t) M51) 54 _ [.int (gbS σ (x1 + (nI q))), .ref (t.1 0)]
            refine p_M_gone (pc := 54) C E q32_8 dX12_chance_54 ?_
            refine x_lload (pc := 57) C 1 dX12_chance_57 rfl ?_
            refine x_aload_n (pc := 59) C 3 dX12_chance_59 rfl ?_
            refine x_iconst (pc := 60) (v := 1) C dX12_chance_60 rfl ?_
            refine x_callV (pc := 61) C E [.int 1] [.long z] (c_X12_safe t (rr_cell (b := 28) (rr_Sc eMx.1 hS51) _ (by unfold relR; omega)) (gn := gbS σ (x1 + (nI q))) (mu_s _ _ _ _) 1) m_X12_safe q35_2 xo_M rfl (by first | decide | omega) (Nat.le_of_ble_eq_true rfl) dX12_chance_61 rfl (k_I ?_)
            refine x_eq (show vSafeG (sV (σ)) (gbS σ (x1 + (nI q))) 1 = vOr (sV σ) (bt (sSt σ (x1 + nI q))) from (saG_or hn6 (st_gb hn6 _))) ?_
            refine x_iload (pc := 64) C 2 dX12_chance_64 rfl ?_
            refine x_icmp_ne (pc := 66) C 73 dX12_chance_66 (by decide) (fun h66 => ?_) (fun h66 => ?_)
            · refine x_lconst (pc := 73) (v := 0) C dX12_chance_73 rfl ?_
              refine x_ladd (pc := 74) C dX12_chance_74 ?_
              refine x_lstore (pc := 75) (L' := [(5, .long (z + 0)), (7, .int (nI q)), (4, .int (vOr (sV σ) (bt (sRs σ)))), (0, .ref (t.1 0)), (1, .int x1), (2, .int (nI nn)), (3, .int x3)]) C dX12_chance_75 (by decide) rfl ?_
              refine x_aload_n (pc := 77) C 3 dX12_chance_77 rfl ?_
              refine x_iconst (pc := 78) (v := 0) C dX12_chance_78 rfl ?_
              refine p_M_gone (pc := 79) C E q32_8 dX12_chance_79 ?_
              refine x_iinc (pc := 82) (v := nI (q + 1)) (L' := [(7, .int (nI (q + 1))), (5, .long (z + 0)), (4, .int (vOr (sV σ) (bt (sRs σ)))), (0, .ref (t.1 0)), (1, .int x1), (2, .int (nI nn)), (3, .int x3)]) C 1 dX12_chance_82 rfl (nI_1 _) (by decide) rfl ?_
              refine x_goto (pc := 85) C 39 dX12_chance_85 (by decide) ?_
              refine x_sub [0, 1, 2, 3, 4, 5, 6] rfl ?_
              exact ih (q + 1) _ _ (z + 0) (by omega) rfl ⟨(rr_cell (b := 28) (rr_cell (b := 28) (rr_Sc eMx.1 hS51) _ (by unfold relR; omega)) _ (by unfold relR; omega)), (mu_s _ _ _ _)⟩ (by rw [ez, chF, if_neg h66]; exact lc_z _ (by have := chF_le σ x1 q; omega))
            · refine x_lconst (pc := 69) (v := 1) C dX12_chance_69 rfl ?_
              refine x_goto (pc := 70) C 74 dX12_chance_70 (by decide) ?_
              refine x_ladd (pc := 74) C dX12_chance_74 ?_
              refine x_lstore (pc := 75) (L' := [(5, .long (z + 1)), (7, .int (nI q)), (4, .int (vOr (sV σ) (bt (sRs σ)))), (0, .ref (t.1 0)), (1, .int x1), (2, .int (nI nn)), (3, .int x3)]) C dX12_chance_75 (by decide) rfl ?_
              refine x_aload_n (pc := 77) C 3 dX12_chance_77 rfl ?_
              refine x_iconst (pc := 78) (v := 0) C dX12_chance_78 rfl ?_
              refine p_M_gone (pc := 79) C E q32_8 dX12_chance_79 ?_
              refine x_iinc (pc := 82) (v := nI (q + 1)) (L' := [(7, .int (nI (q + 1))), (5, .long (z + 1)), (4, .int (vOr (sV σ) (bt (sRs σ)))), (0, .ref (t.1 0)), (1, .int x1), (2, .int (nI nn)), (3, .int x3)]) C 1 dX12_chance_82 rfl (nI_1 _) (by decide) rfl ?_
              refine x_goto (pc := 85) C 39 dX12_chance_85 (by decide) ?_
              refine x_sub [0, 1, 2, 3, 4, 5, 6] rfl ?_
              exact ih (q + 1) _ _ (z + 1) (by omega) rfl ⟨(rr_cell (b := 28) (rr_cell (b := 28) (rr_Sc eMx.1 hS51) _ (by unfold relR; omega)) _ (by unfold relR; omega)), (mu_s _ _ _ _)⟩ (by rw [ez, chF, if_pos h66]; exact lc_1 _ (by have := chF_le σ x1 q; omega))
      refine x_sub [0, 1, 2, 3, 4, 5, 6] rfl ?_
      exact loop39 nn 0 _ M 0 (by omega) rfl ⟨h, hg⟩ rfl
    · refine x_ldc2 (pc := 22) (v := (-4611686018427387904)) C q45_3 dX12_chance_22 ?_
      exact x_lret (pc := 25) C X dX12_chance_25 (flq (by
            unfold a_chance
            refine (if_pos ?_).trans ?_
            · ((try simp only [inB_t, inB_f, i_lt, i_le, i_eq, ne_eq, Bool.not_eq_true, Bool.not_eq_false, hpB, decide_eq_true_eq, decide_eq_false_iff_not, li_0, li_1, li_2, li_3, li_4, li_5, li_6, li_7, li_8, li_9, li_10, li_20, li_40, li_99, li_100, li_255, li_899, li_999, li_m1, li_m2, li_m3, li_m4, li_m11, li_m12, li_m13, li_m14, li_m100] at h9 h19 ⊢) <;> omega)
            · rfl) h hg)

