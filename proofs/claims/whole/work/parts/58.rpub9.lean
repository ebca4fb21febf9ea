theorem tdG_of {σ : SV} {s : Nat} : ∀ n i, tdG σ s i n = true → ∀ k, i ≤ k → k < i + n → inB ((sH σ s).2.2 k) (vN (sV σ)) = true := by
  intro n
  induction n with
  | zero => intro i _ k h1 h2; omega
  | succ n ih =>
    intro i h k h1 h2
    rw [tdG, Bool.and_eq_true] at h
    by_cases g : k = i
    · rw [g]; exact h.1
    · exact ih (i + 1) h.2 k (by omega) (by omega)
theorem td_of {σ : SV} {s k : Nat} (h : sTd σ s = true) (hk : k < (sH σ s).2.1) : inB ((sH σ s).2.2 k) (vN (sV σ)) = true := tdG_of _ 0 h k (Nat.zero_le _) (by omega)
theorem cp_cond {σ : SV} {s i a b : Nat} {w : WV} (hn : vN (sV σ) ≤ 6) (ha : a < vN (sV σ)) (hb : b < vN (sV σ)) (ea : (sH σ s).2.2 (2 * i) = nI a) (eb : (sH σ s).2.2 (2 * i + 1) = nI b) : (two σ ((sH σ s).2.2 (2 * i)) ((sH σ s).2.2 (2 * i + 1)) && (vRd w (oN ((sH σ s).2.2 (2 * i))) && vRd w (oN ((sH σ s).2.2 (2 * i + 1))))) = (!decide (a = b) && (vRd w a && vRd w b)) := by
  rw [ea, eb, oN_nI (by omega), oN_nI (by omega)]
  by_cases g : a = b
  · subst g
    rw [two_f (Or.inr (Or.inr rfl)), decide_eq_true rfl]
    rfl
  · rw [two_t hn ha hb (fun e => g ((nI_eq (by omega) (by omega)).mp e)), decide_eq_false g]
    rfl
theorem cpF_y {σ : SV} {s i a b k : Nat} {w : WV} (hn : vN (sV σ) ≤ 6) (ha : a < vN (sV σ)) (hb : b < vN (sV σ)) (ea : (sH σ s).2.2 (2 * i) = nI a) (eb : (sH σ s).2.2 (2 * i + 1) = nI b) (h : (!decide (a = b) && (vRd w a && vRd w b)) = true) : cpF σ s i w (k + 1) = cpF σ s (i + 1) (sCp σ w a b).1 k := by
  rw [cpF, if_pos ((cp_cond hn ha hb ea eb).trans h), ea, eb, oN_nI (by omega), oN_nI (by omega)]
theorem cpF_n {σ : SV} {s i a b k : Nat} {w : WV} (hn : vN (sV σ) ≤ 6) (ha : a < vN (sV σ)) (hb : b < vN (sV σ)) (ea : (sH σ s).2.2 (2 * i) = nI a) (eb : (sH σ s).2.2 (2 * i + 1) = nI b) (h : (!decide (a = b) && (vRd w a && vRd w b)) = false) : cpF σ s i w (k + 1) = (w, nI i) := by
  rw [cpF, if_neg (by rw [cp_cond hn ha hb ea eb, h]; exact Bool.false_ne_true)]
theorem pl_bad {n : Nat} {b : Bool} (h : (decide (n % 2 = 0) && b) = false) : n % 2 ≠ 0 ∨ b = false := by
  by_cases g : n % 2 = 0
  · right; rw [decide_eq_true g] at h; exact h
  · exact Or.inl g
set_option maxRecDepth 100000 in
set_option maxHeartbeats 800000 in
theorem c_X12_plan (t : CT) {σ : SV} {M : MM} (h : RR σ M) (hg : M 0 28 = 0) (x1 x2 : Int32)  : XMet (wR t) yX12_plan cX12_plan 6 (some .int) 66 [.ref (t.1 0), .int x1, .int x2] M (oQ (σ, a_plan σ x1 x2)) := by
  refine x_met RX12 (by decide) rfl (Nat.le_of_ble_eq_true rfl) (fun κ C X E => ?_)
  refine x_L (L' := [(0, .ref (t.1 0)), (1, .int x1), (2, .int x2)]) rfl ?_
  have hn6 := rr_n6 h
  have hN6 := h.1.1
  have hq := rr_q h
  have hB := h.1.2.1
  refine x_iload_n (pc := 0) C 1 dX12_plan_0 rfl ?_
  refine x_callS (pc := 1) C E [.int x1] [] (c_X12_isSheet t _ _) m_X12_isSheet q40_18 rfl (by decide) (Nat.le_of_ble_eq_true rfl) dX12_plan_1 rfl (k_I ?_)
  refine x_ifb_eq (pc := 4) C 19 dX12_plan_4 (by decide) (fun h4 => ?_) (fun h4 => ?_)
  · refine x_bipush (pc := 19) (v := (-2)) C dX12_plan_19 rfl ?_
    exact x_iret (pc := 21) C X dX12_plan_21 (faq (by
          unfold a_plan
          repeat (first | with_reducible rfl | (refine (if_pos ?_).trans ?_; ((try simp only [inB_t, inB_f, i_lt, i_le, i_eq, ne_eq, Bool.not_eq_true, Bool.not_eq_false, hpB, decide_eq_true_eq, decide_eq_false_iff_not, li_0, li_1, li_2, li_3, li_4, li_5, li_6, li_7, li_8, li_9, li_10, li_20, li_40, li_99, li_100, li_255, li_899, li_999, li_m1, li_m2, li_m3, li_m4, li_m11, li_m12, li_m13, li_m14, li_m100] at h4 ⊢) <;> omega)) | (refine (if_neg ?_).trans ?_; ((try simp only [inB_t, inB_f, i_lt, i_le, i_eq, ne_eq, Bool.not_eq_true, Bool.not_eq_false, hpB, decide_eq_true_eq, decide_eq_false_iff_not, li_0, li_1, li_2, li_3, li_4, li_5, li_6, li_7, li_8, li_9, li_10, li_20, li_40, li_99, li_100, li_255, li_899, li_999, li_m1, li_m2, li_m3, li_m4, li_m11, li_m12, li_m13, li_m14, li_m100] at h4 ⊢) <;> omega)) | fail)
          all_goals (first | with_reducible rfl | (exfalso; ((try simp only [inB_t, inB_f, i_lt, i_le, i_eq, ne_eq, Bool.not_eq_true, Bool.not_eq_false, hpB, decide_eq_true_eq, decide_eq_false_iff_not, li_0, li_1, li_2, li_3, li_4, li_5, li_6, li_7, li_8, li_9, li_10, li_20, li_40, li_99, li_100, li_255, li_899, li_999, li_m1, li_m2, li_m3, li_m4, li_m11, li_m12, li_m13, li_m14, li_m100] at h4 ⊢) <;> omega)))) h hg)
  · obtain ⟨s, hs, es⟩ := inB_of h4 (by omega)
    have hts := nI_toInt (n := s) (by omega)
    have hos := oN_nI (n := s) (by omega)
    subst es
    refine x_iload_n (pc := 7) C 2 dX12_plan_7 rfl ?_
    refine x_i2l (pc := 8) C dX12_plan_8 ?_
    refine x_lconst (pc := 9) (v := 0) C dX12_plan_9 rfl ?_
    refine x_ldc2 (pc := 10) (v := 2) C q13_3 dX12_plan_10 ?_
    refine x_callS (pc := 13) C E [.long (Int32.toInt64 x2), .long 0, .long 2] [] (c_X12_inB t _ x2 (n := 3) (by decide) (by decide)) m_X12_in q13_6 rfl (by decide) (Nat.le_of_ble_eq_true rfl) dX12_plan_13 rfl (k_I ?_)
    refine x_ifb_ne (pc := 16) C 22 dX12_plan_16 (by decide) (fun h16 => ?_) (fun h16 => ?_)
    · refine x_aload_n (pc := 22) C 0 dX12_plan_22 rfl ?_
      refine g_M_isThere (pc := 23) C E q12_1 dX12_plan_23 ?_
      refine x_iload_n (pc := 26) C 1 dX12_plan_26 rfl ?_
      refine l_RisThere (pc := 27) C E (by omega) dX12_plan_27 ?_
      refine x_eq (show M 12 s = b2i (!decide ((sH (σ) s).1 = -1)) from (rr_si h (by omega))) ?_
      refine x_ifb_ne (pc := 28) C 34 dX12_plan_28 (by decide) (fun h28 => ?_) (fun h28 => ?_)
      · have hss : (sH σ s).1 ≠ -1 := fun e => by rw [decide_eq_true e] at h28; exact absurd h28 (by decide)
        have h40s := (h.1.2.2.2.2 s hs).1
        refine x_aload_n (pc := 34) C 0 dX12_plan_34 rfl ?_
        refine x_iload_n (pc := 35) C 1 dX12_plan_35 rfl ?_
        refine x_callV (pc := 36) C E [.int (nI s)] [] (c_X12_isPlan t h hs hss) m_X12_isPlan q40_22 xo_M rfl (by first | decide | omega) (Nat.le_of_ble_eq_true rfl) dX12_plan_36 rfl (k_I ?_)
        refine x_ifb_ne (pc := 39) C 45 dX12_plan_39 (by decide) (fun h39 => ?_) (fun h39 => ?_)
        · rw [Bool.and_eq_true] at h39
          have hev : (sH σ s).2.1 % 2 = 0 := of_decide_eq_true h39.1
          have hsT := h39.2
          refine x_iconst (pc := 45) (v := (-1)) C dX12_plan_45 rfl ?_
          refine x_istore_n (pc := 46) (L' := [(3, .int (-1)), (0, .ref (t.1 0)), (1, .int (nI s)), (2, .int x2)]) C dX12_plan_46 (by decide) rfl ?_
          refine x_aload_n (pc := 47) C 1 dX12_plan_47 rfl ?_
          refine x_iconst (pc := 48) (v := (nI 0)) C dX12_plan_48 (by decide) ?_
          refine x_callV (pc := 49) C E [.int (nI 0)] [] (c_X12_keeps t _ (L := 0) (by omega)) m_X12_keeps q36_19 xo_M rfl (by first | decide | omega) (Nat.le_of_ble_eq_true rfl) dX12_plan_49 rfl (fun r M49 hc49 => ?_)
          obtain ⟨rfl, hK49⟩ := hc49
          have hR49 := rr_kp h hK49
          show XV κ (xP (wR t) M49) 52 _ []
          refine x_iconst (pc := 52) (v := 0) C dX12_plan_52 rfl ?_
          refine x_istore (pc := 53) (L' := [(4, .int 0), (3, .int (-1)), (0, .ref (t.1 0)), (1, .int (nI s)), (2, .int x2)]) C dX12_plan_53 (by decide) rfl ?_
          have loop55 : ∀ (k i : Nat) (y : Int32) (Mx : MM) (w : WV) , i + k = (sH σ s).2.1 / 2 → y = nI (2 * i) → (RR (setV σ w) Mx ∧ Mx 0 28 = 0 ∧ FrK 0 M49 Mx ∧ vN w = vN (sV σ) ∧ vR w = vR (sV σ)) → cpF σ s i w k = sPl σ s → XV κ (xP (wR t) Mx) 55 [(4, .int y), (3, .int (-1)), (0, .ref (t.1 0)), (1, .int (nI s)), (2, .int x2)] [] := by
            intro k
            induction k with
              | zero =>
                intro i y Mx w hcnt ey eMx hl
                subst ey
                obtain rfl : (sH σ s).2.1 / 2 = i := by omega
                have hwn := eMx.2.2.2.1
                have hss0 := hss
                have hss : (sH (setV σ w) s).1 ≠ -1 := hss0
                have hsw : (sH (setV σ w) s).2.1 = (sH σ s).2.1 := rfl
                refine x_iload (pc := 55) C 0 dX12_plan_55 rfl ?_
                refine x_aload_n (pc := 57) C 2 dX12_plan_57 rfl ?_
                refine g_M_sheetSize (pc := 58) C E q12_3 dX12_plan_58 ?_
                refine x_iload_n (pc := 61) C 3 dX12_plan_61 rfl ?_
                refine l_RsheetSize (pc := 62) C E (by omega) dX12_plan_62 ?_
                refine x_eq (show Mx 14 s = nI (sH ((setV σ w)) s).2.1 from (rr_sz eMx.1 (by omega) hss)) ?_
                refine x_icmp_ge_t (pc := 63) C 138 dX12_plan_63 (by decide) (nI_le (by omega) (by omega)) ?_
                refine x_iload_n (pc := 138) C 4 dX12_plan_138 rfl ?_
                refine x_if_ne (pc := 139) C 146 dX12_plan_139 (by decide) (fun h139 => ?_) (fun h139 => ?_)
                · refine x_iload_n (pc := 146) C 4 dX12_plan_146 rfl ?_
                  refine x_iconst (pc := 147) (v := 1) C dX12_plan_147 rfl ?_
                  refine x_icmp_ne (pc := 148) C 159 dX12_plan_148 (by decide) (fun h148 => ?_) (fun h148 => ?_)
                  · refine x_aload_n (pc := 159) C 2 dX12_plan_159 rfl ?_
                    refine x_callV (pc := 160) C E [] [] (c_X12_differ t eMx.1 eMx.2.1 ) m_X12_differ q34_18 xo_M rfl (by first | decide | omega) (Nat.le_of_ble_eq_true rfl) dX12_plan_160 rfl (k_I ?_)
                    refine x_istore (pc := 163) (L' := [(4, .int (mk (vDu w) 8)), (3, .int (-1)), (0, .ref (t.1 0)), (1, .int (nI s)), (2, .int x2)]) C dX12_plan_163 (by decide) rfl ?_
                    refine x_aload_n (pc := 165) C 2 dX12_plan_165 rfl ?_
                    refine x_iconst (pc := 166) (v := (nI 0)) C dX12_plan_166 (by decide) ?_
                    refine x_callV (pc := 167) C E [.int (nI 0)] [] (c_X12_laysBack t _ (L := 0) (by omega)) m_X12_laysBack q36_23 xo_M rfl (by first | decide | omega) (Nat.le_of_ble_eq_true rfl) dX12_plan_167 rfl (fun r M167 hc167 => ?_)
                    obtain ⟨rfl, hL167⟩ := hc167
                    obtain ⟨hB167, hZ167⟩ := rr_back h hK49 eMx.2.2.1 hL167
                    show XV κ (xP (wR t) M167) 170 _ []
                    refine x_iload (pc := 170) C 0 dX12_plan_170 rfl ?_
                    exact x_iret (pc := 172) C X dX12_plan_172 (faq (by
                          unfold a_plan
                          simp only [hos]
                          refine (if_neg (by ((try simp only [inB_t, inB_f, i_lt, i_le, i_eq, ne_eq, Bool.not_eq_true, Bool.not_eq_false, hpB, decide_eq_true_eq, decide_eq_false_iff_not, li_0, li_1, li_2, li_3, li_4, li_5, li_6, li_7, li_8, li_9, li_10, li_20, li_40, li_99, li_100, li_255, li_899, li_999, li_m1, li_m2, li_m3, li_m4, li_m11, li_m12, li_m13, li_m14, li_m100] at h4 hts h16 h28 h39 h139 h148 ⊢) <;> omega))).trans ?_
                          refine (if_neg hss).trans ?_
                          refine (if_neg (fun e => e.elim (fun g => g hev) (fun g => by rw [hsT] at g; cases g))).trans ?_
                          rw [← hl, cpF]
                          repeat (first | with_reducible rfl | (refine (if_pos ?_).trans ?_; ((try simp only [inB_t, inB_f, i_lt, i_le, i_eq, ne_eq, Bool.not_eq_true, Bool.not_eq_false, hpB, decide_eq_true_eq, decide_eq_false_iff_not, li_0, li_1, li_2, li_3, li_4, li_5, li_6, li_7, li_8, li_9, li_10, li_20, li_40, li_99, li_100, li_255, li_899, li_999, li_m1, li_m2, li_m3, li_m4, li_m11, li_m12, li_m13, li_m14, li_m100] at h4 hts h16 h28 h39 h139 h148 ⊢) <;> omega)) | (refine (if_neg ?_).trans ?_; ((try simp only [inB_t, inB_f, i_lt, i_le, i_eq, ne_eq, Bool.not_eq_true, Bool.not_eq_false, hpB, decide_eq_true_eq, decide_eq_false_iff_not, li_0, li_1, li_2, li_3, li_4, li_5, li_6, li_7, li_8, li_9, li_10, li_20, li_40, li_99, li_100, li_255, li_899, li_999, li_m1, li_m2, li_m3, li_m4, li_m11, li_m12, li_m13, li_m14, li_m100] at h4 hts h16 h28 h39 h139 h148 ⊢) <;> omega)) | fail)
                          all_goals (first | rfl | (exfalso; ((try simp only [inB_t, inB_f, i_lt, i_le, i_eq, ne_eq, Bool.not_eq_true, Bool.not_eq_false, hpB, decide_eq_true_eq, decide_eq_false_iff_not, li_0, li_1, li_2, li_3, li_4, li_5, li_6, li_7, li_8, li_9, li_10, li_20, li_40, li_99, li_100, li_255, li_899, li_999, li_m1, li_m2, li_m3, li_m4, li_m11, li_m12, li_m13, li_m14, li_m100] at h4 hts h16 h28 h39 h139 h148 ⊢) <;> omega)))) hB167 ((hZ167 _ _ (by decide) (by decide) (by omega) (by omega)).trans hg))
                  · refine x_aload_n (pc := 151) C 2 dX12_plan_151 rfl ?_
                    refine x_iconst (pc := 152) (v := 2) C dX12_plan_152 rfl ?_
                    refine x_callV (pc := 153) C E [.int 2] [] (c_X12_safe t eMx.1 (gn := 0) eMx.2.1 2) m_X12_safe q35_2 xo_M rfl (by first | decide | omega) (Nat.le_of_ble_eq_true rfl) dX12_plan_153 rfl (k_I ?_)
                    refine x_eq (show _ = vSafe w 2 from vSafeG_0 _ _) ?_
                    refine x_goto (pc := 156) C 163 dX12_plan_156 (by decide) ?_
                    refine x_istore (pc := 163) (L' := [(4, .int (vSafe w 2)), (3, .int (-1)), (0, .ref (t.1 0)), (1, .int (nI s)), (2, .int x2)]) C dX12_plan_163 (by decide) rfl ?_
                    refine x_aload_n (pc := 165) C 2 dX12_plan_165 rfl ?_
                    refine x_iconst (pc := 166) (v := (nI 0)) C dX12_plan_166 (by decide) ?_
                    refine x_callV (pc := 167) C E [.int (nI 0)] [] (c_X12_laysBack t _ (L := 0) (by omega)) m_X12_laysBack q36_23 xo_M rfl (by first | decide | omega) (Nat.le_of_ble_eq_true rfl) dX12_plan_167 rfl (fun r M167 hc167 => ?_)
                    obtain ⟨rfl, hL167⟩ := hc167
                    obtain ⟨hB167, hZ167⟩ := rr_back h hK49 eMx.2.2.1 hL167
                    show XV κ (xP (wR t) M167) 170 _ []
                    refine x_iload (pc := 170) C 0 dX12_plan_170 rfl ?_
                    exact x_iret (pc := 172) C X dX12_plan_172 (faq (by
                          unfold a_plan
                          simp only [hos]
                          refine (if_neg (by ((try simp only [inB_t, inB_f, i_lt, i_le, i_eq, ne_eq, Bool.not_eq_true, Bool.not_eq_false, hpB, decide_eq_true_eq, decide_eq_false_iff_not, li_0, li_1, li_2, li_3, li_4, li_5, li_6, li_7, li_8, li_9, li_10, li_20, li_40, li_99, li_100, li_255, li_899, li_999, li_m1, li_m2, li_m3, li_m4, li_m11, li_m12, li_m13, li_m14, li_m100] at h4 hts h16 h28 h39 h139 h148 ⊢) <;> omega))).trans ?_
                          refine (if_neg hss).trans ?_
                          refine (if_neg (fun e => e.elim (fun g => g hev) (fun g => by rw [hsT] at g; cases g))).trans ?_
                          rw [← hl, cpF]
                          repeat (first | with_reducible rfl | (refine (if_pos ?_).trans ?_; ((try simp only [inB_t, inB_f, i_lt, i_le, i_eq, ne_eq, Bool.not_eq_true, Bool.not_eq_false, hpB, decide_eq_true_eq, decide_eq_false_iff_not, li_0, li_1, li_2, li_3, li_4, li_5, li_6, li_7, li_8, li_9, li_10, li_20, li_40, li_99, li_100, li_255, li_899, li_999, li_m1, li_m2, li_m3, li_m4, li_m11, li_m12, li_m13, li_m14, li_m100] at h4 hts h16 h28 h39 h139 h148 ⊢) <;> omega)) | (refine (if_neg ?_).trans ?_; ((try simp only [inB_t, inB_f, i_lt, i_le, i_eq, ne_eq, Bool.not_eq_true, Bool.not_eq_false, hpB, decide_eq_true_eq, decide_eq_false_iff_not, li_0, li_1, li_2, li_3, li_4, li_5, li_6, li_7, li_8, li_9, li_10, li_20, li_40, li_99, li_100, li_255, li_899, li_999, li_m1, li_m2, li_m3, li_m4, li_m11, li_m12, li_m13, li_m14, li_m100] at h4 hts h16 h28 h39 h139 h148 ⊢) <;> omega)) | fail)
                          all_goals (first | rfl | (exfalso; ((try simp only [inB_t, inB_f, i_lt, i_le, i_eq, ne_eq, Bool.not_eq_true, Bool.not_eq_false, hpB, decide_eq_true_eq, decide_eq_false_iff_not, li_0, li_1, li_2, li_3, li_4, li_5, li_6, li_7, li_8, li_9, li_10, li_20, li_40, li_99, li_100, li_255, li_899, li_999, li_m1, li_m2, li_m3, li_m4, li_m11, li_m12, li_m13, li_m14, li_m100] at h4 hts h16 h28 h39 h139 h148 ⊢) <;> omega)))) hB167 ((hZ167 _ _ (by decide) (by decide) (by omega) (by omega)).trans hg))
                · refine x_iload_n (pc := 142) C 1 dX12_plan_142 rfl ?_
                  refine x_goto (pc := 143) C 163 dX12_plan_143 (by decide) ?_
                  refine x_istore (pc := 163) (L' := [(4, .int (-1)), (3, .int (-1)), (0, .ref (t.1 0)), (1, .int (nI s)), (2, .int x2)]) C dX12_plan_163 (by decide) rfl ?_
                  refine x_aload_n (pc := 165) C 2 dX12_plan_165 rfl ?_
                  refine x_iconst (pc := 166) (v := (nI 0)) C dX12_plan_166 (by decide) ?_
                  refine x_callV (pc := 167) C E [.int (nI 0)] [] (c_X12_laysBack t _ (L := 0) (by omega)) m_X12_laysBack q36_23 xo_M rfl (by first | decide | omega) (Nat.le_of_ble_eq_true rfl) dX12_plan_167 rfl (fun r M167 hc167 => ?_)
                  obtain ⟨rfl, hL167⟩ := hc167
                  obtain ⟨hB167, hZ167⟩ := rr_back h hK49 eMx.2.2.1 hL167
                  show XV κ (xP (wR t) M167) 170 _ []
                  refine x_iload (pc := 170) C 0 dX12_plan_170 rfl ?_
                  exact x_iret (pc := 172) C X dX12_plan_172 (faq (by
                        unfold a_plan
                        simp only [hos]
                        refine (if_neg (by ((try simp only [inB_t, inB_f, i_lt, i_le, i_eq, ne_eq, Bool.not_eq_true, Bool.not_eq_false, hpB, decide_eq_true_eq, decide_eq_false_iff_not, li_0, li_1, li_2, li_3, li_4, li_5, li_6, li_7, li_8, li_9, li_10, li_20, li_40, li_99, li_100, li_255, li_899, li_999, li_m1, li_m2, li_m3, li_m4, li_m11, li_m12, li_m13, li_m14, li_m100] at h4 hts h16 h28 h39 h139 ⊢) <;> omega))).trans ?_
                        refine (if_neg hss).trans ?_
                        refine (if_neg (fun e => e.elim (fun g => g hev) (fun g => by rw [hsT] at g; cases g))).trans ?_
                        rw [← hl, cpF]
                        repeat (first | with_reducible rfl | (refine (if_pos ?_).trans ?_; ((try simp only [inB_t, inB_f, i_lt, i_le, i_eq, ne_eq, Bool.not_eq_true, Bool.not_eq_false, hpB, decide_eq_true_eq, decide_eq_false_iff_not, li_0, li_1, li_2, li_3, li_4, li_5, li_6, li_7, li_8, li_9, li_10, li_20, li_40, li_99, li_100, li_255, li_899, li_999, li_m1, li_m2, li_m3, li_m4, li_m11, li_m12, li_m13, li_m14, li_m100] at h4 hts h16 h28 h39 h139 ⊢) <;> omega)) | (refine (if_neg ?_).trans ?_; ((try simp only [inB_t, inB_f, i_lt, i_le, i_eq, ne_eq, Bool.not_eq_true, Bool.not_eq_false, hpB, decide_eq_true_eq, decide_eq_false_iff_not, li_0, li_1, li_2, li_3, li_4, li_5, li_6, li_7, li_8, li_9, li_10, li_20, li_40, li_99, li_100, li_255, li_899, li_999, li_m1, li_m2, li_m3, li_m4, li_m11, li_m12, li_m13, li_m14, li_m100] at h4 hts h16 h28 h39 h139 ⊢) <;> omega)) | fail)
                        all_goals (first | rfl | (exfalso; ((try simp only [inB_t, inB_f, i_lt, i_le, i_eq, ne_eq, Bool.not_eq_true, Bool.not_eq_false, hpB, decide_eq_true_eq, decide_eq_false_iff_not, li_0, li_1, li_2, li_3, li_4, li_5, li_6, li_7, li_8, li_9, li_10, li_20, li_40, li_99, li_100, li_255, li_899, li_999, li_m1, li_m2, li_m3, li_m4, li_m11, li_m12, li_m13, li_m14, li_m100] at h4 hts h16 h28 h39 h139 ⊢) <;> omega)))) hB167 ((hZ167 _ _ (by decide) (by decide) (by omega) (by omega)).trans hg))
              | succ k ih =>
                intro i y Mx w hcnt ey eMx hl
                subst ey
                have hi55 : i < (sH σ s).2.1 / 2 := by omega
                have hwn := eMx.2.2.2.1
                obtain ⟨a, ha, ea⟩ := inB_of (td_of hsT (k := 2 * i) (by omega)) (by omega)
                obtain ⟨b, hb, eb⟩ := inB_of (td_of hsT (k := 2 * i + 1) (by omega)) (by omega)
                have hss0 := hss
                have hss : (sH (setV σ w) s).1 ≠ -1 := hss0
                have hsw : (sH (setV σ w) s).2.1 = (sH σ s).2.1 := rfl
                refine x_iload (pc := 55) C 0 dX12_plan_55 rfl ?_
                refine x_aload_n (pc := 57) C 2 dX12_plan_57 rfl ?_
                refine g_M_sheetSize (pc := 58) C E q12_3 dX12_plan_58 ?_
                refine x_iload_n (pc := 61) C 3 dX12_plan_61 rfl ?_
                refine l_RsheetSize (pc := 62) C E (by omega) dX12_plan_62 ?_
                refine x_eq (show Mx 14 s = nI (sH ((setV σ w)) s).2.1 from (rr_sz eMx.1 (by omega) hss)) ?_
                refine x_icmp_ge_f (pc := 63) C 138 dX12_plan_63 (by decide) (nI_ge (by omega) (by omega)) ?_
                refine x_iload_n (pc := 66) C 1 dX12_plan_66 rfl ?_
                refine x_iconst (pc := 67) (v := (-1)) C dX12_plan_67 rfl ?_
                refine x_icmp_ne_f (pc := 68) C 138 dX12_plan_68 (by decide) (by decide) ?_
                refine x_bipush (pc := 71) (v := (nI 40)) C dX12_plan_71 (by decide) ?_
                refine x_iload_n (pc := 73) C 3 dX12_plan_73 rfl ?_
                refine x_imul (pc := 74) C dX12_plan_74 ?_
                refine x_eq (show (nI 40) * (nI s) = nI (40 * s) from pk_mul _ _) ?_
                refine x_iload (pc := 75) C 0 dX12_plan_75 rfl ?_
                refine x_iadd (pc := 77) C dX12_plan_77 ?_
                refine x_eq (show (nI (40 * s)) + (nI (2 * i)) = nI (40 * s + (2 * i)) from nI_add _ _) ?_
                refine x_eq (show nI (40 * s + (2 * i)) = nI (40 * s + (2 * i)) from rfl) ?_
                refine x_istore (pc := 78) (L' := [(5, .int (nI (40 * s + (2 * i)))), (4, .int (nI (2 * i))), (3, .int (-1)), (0, .ref (t.1 0)), (1, .int (nI s)), (2, .int x2)]) C dX12_plan_78 (by decide) rfl ?_
                refine x_aload_n (pc := 80) C 3 dX12_plan_80 rfl ?_
                refine x_aload_n (pc := 81) C 3 dX12_plan_81 rfl ?_
                refine g_M_items (pc := 82) C E q12_4 dX12_plan_82 ?_
                refine x_iload (pc := 85) C 0 dX12_plan_85 rfl ?_
                refine l_Ritems (pc := 87) C E (by omega) dX12_plan_87 ?_
                refine x_eq (show Mx 15 (40 * s + (2 * i)) = (sH ((setV σ w)) s).2.2 (2 * i) from (rr_it eMx.1 (by omega) hss (by omega))) ?_
                refine x_eq (show (sH ((setV σ w)) s).2.2 (2 * i) = nI a from ea) ?_
                refine x_aload_n (pc := 88) C 3 dX12_plan_88 rfl ?_
                refine g_M_items (pc := 89) C E q12_4 dX12_plan_89 ?_
                refine x_iload (pc := 92) C 0 dX12_plan_92 rfl ?_
                refine x_iconst (pc := 94) (v := 1) C dX12_plan_94 rfl ?_
                refine x_iadd (pc := 95) C dX12_plan_95 ?_
                refine x_eq (show (nI (40 * s + (2 * i))) + 1 = nI (40 * s + (2 * i + 1)) from nI_1 _) ?_
                refine l_Ritems (pc := 96) C E (by omega) dX12_plan_96 ?_
                refine x_eq (show Mx 15 (40 * s + (2 * i + 1)) = (sH ((setV σ w)) s).2.2 (2 * i + 1) from (rr_it eMx.1 (by omega) hss (by omega))) ?_
                refine x_eq (show (sH ((setV σ w)) s).2.2 (2 * i + 1) = nI b from eb) ?_
                refine x_callV (pc := 97) C E [.int (nI a), .int (nI b)] [] ( c_X12_canCopy t eMx.1 (a := a) (b := b) (show a < vN w by omega) (show b < vN w by omega)) m_X12_canCopy q30_20 xo_M rfl (by decide) (Nat.le_of_ble_eq_true rfl) dX12_plan_97 rfl (k_I ?_)
                refine x_ifb_eq (pc := 100) C 127 dX12_plan_100 (by decide) (fun h100 => ?_) (fun h100 => ?_)
                · refine x_iload (pc := 127) C 1 dX12_plan_127 rfl ?_
                  refine x_iconst (pc := 129) (v := (nI 2)) C dX12_plan_129 (by decide) ?_
                  refine x_idiv (pc := 130) C dX12_plan_130 (by decide) ?_
                  refine x_eq (show (nI (2 * i)) / (nI 2) = nI i from ((pk_div (by omega) (by decide) (by decide)).trans (by rw [Nat.mul_div_cancel_left _ (by decide)]))) ?_
                  refine x_istore_n (pc := 131) (L' := [(3, .int (nI i)), (5, .int (nI (40 * s + (2 * i)))), (4, .int (nI (2 * i))), (0, .ref (t.1 0)), (1, .int (nI s)), (2, .int x2)]) C dX12_plan_131 (by decide) rfl ?_
                  refine x_iinc (pc := 132) (v := nI ((2 * i) + 2)) (L' := [(4, .int (nI ((2 * i) + 2))), (3, .int (nI i)), (5, .int (nI (40 * s + (2 * i)))), (0, .ref (t.1 0)), (1, .int (nI s)), (2, .int x2)]) C 2 dX12_plan_132 rfl (nI_add _ 2) (by decide) rfl ?_
                  refine x_goto (pc := 135) C 55 dX12_plan_135 (by decide) ?_
                  refine x_sub [0, 1, 3, 4, 5] rfl ?_
                  refine x_iload (pc := 55) C 0 dX12_plan_55 rfl ?_
                  refine x_aload_n (pc := 57) C 2 dX12_plan_57 rfl ?_
                  refine g_M_sheetSize (pc := 58) C E q12_3 dX12_plan_58 ?_
                  refine x_iload_n (pc := 61) C 3 dX12_plan_61 rfl ?_
                  refine l_RsheetSize (pc := 62) C E (by omega) dX12_plan_62 ?_
                  refine x_eq (show Mx 14 s = nI (sH ((setV σ w)) s).2.1 from (rr_sz eMx.1 (by omega) hss)) ?_
                  refine x_icmp_ge (pc := 63) C 138 dX12_plan_63 (by decide) (fun h63 => ?_) (fun h63 => ?_)
                  · refine x_iload_n (pc := 138) C 4 dX12_plan_138 rfl ?_
                    refine x_if_ne (pc := 139) C 146 dX12_plan_139 (by decide) (fun h139 => ?_) (fun h139 => ?_)
                    · refine x_iload_n (pc := 146) C 4 dX12_plan_146 rfl ?_
                      refine x_iconst (pc := 147) (v := 1) C dX12_plan_147 rfl ?_
                      refine x_icmp_ne (pc := 148) C 159 dX12_plan_148 (by decide) (fun h148 => ?_) (fun h148 => ?_)
                      · refine x_aload_n (pc := 159) C 2 dX12_plan_159 rfl ?_
                        refine x_callV (pc := 160) C E [] [] (c_X12_differ t eMx.1 eMx.2.1 ) m_X12_differ q34_18 xo_M rfl (by first | decide | omega) (Nat.le_of_ble_eq_true rfl) dX12_plan_160 rfl (k_I ?_)
                        refine x_istore (pc := 163) (L' := [(4, .int (mk (vDu w) 8)), (3, .int (nI i)), (0, .ref (t.1 0)), (1, .int (nI s)), (2, .int x2)]) C dX12_plan_163 (by decide) rfl ?_
                        refine x_aload_n (pc := 165) C 2 dX12_plan_165 rfl ?_
                        refine x_iconst (pc := 166) (v := (nI 0)) C dX12_plan_166 (by decide) ?_
                        refine x_callV (pc := 167) C E [.int (nI 0)] [] (c_X12_laysBack t _ (L := 0) (by omega)) m_X12_laysBack q36_23 xo_M rfl (by first | decide | omega) (Nat.le_of_ble_eq_true rfl) dX12_plan_167 rfl (fun r M167 hc167 => ?_)
                        obtain ⟨rfl, hL167⟩ := hc167
                        obtain ⟨hB167, hZ167⟩ := rr_back h hK49 eMx.2.2.1 hL167
                        show XV κ (xP (wR t) M167) 170 _ []
                        refine x_iload (pc := 170) C 0 dX12_plan_170 rfl ?_
                        exact x_iret (pc := 172) C X dX12_plan_172 (faq (by
                              unfold a_plan
                              simp only [hos]
                              refine (if_neg (by ((try simp only [inB_t, inB_f, i_lt, i_le, i_eq, ne_eq, Bool.not_eq_true, Bool.not_eq_false, hpB, decide_eq_true_eq, decide_eq_false_iff_not, li_0, li_1, li_2, li_3, li_4, li_5, li_6, li_7, li_8, li_9, li_10, li_20, li_40, li_99, li_100, li_255, li_899, li_999, li_m1, li_m2, li_m3, li_m4, li_m11, li_m12, li_m13, li_m14, li_m100] at h4 hts h16 h28 h39 h100 h63 h139 h148 ⊢) <;> omega))).trans ?_
                              refine (if_neg hss).trans ?_
                              refine (if_neg (fun e => e.elim (fun g => g hev) (fun g => by rw [hsT] at g; cases g))).trans ?_
                              rw [← hl, cpF_n (w := w) hn6 ha hb ea eb h100]
                              repeat (first | with_reducible rfl | (refine (if_pos ?_).trans ?_; ((try simp only [inB_t, inB_f, i_lt, i_le, i_eq, ne_eq, Bool.not_eq_true, Bool.not_eq_false, hpB, decide_eq_true_eq, decide_eq_false_iff_not, li_0, li_1, li_2, li_3, li_4, li_5, li_6, li_7, li_8, li_9, li_10, li_20, li_40, li_99, li_100, li_255, li_899, li_999, li_m1, li_m2, li_m3, li_m4, li_m11, li_m12, li_m13, li_m14, li_m100] at h4 hts h16 h28 h39 h100 h63 h139 h148 ⊢) <;> omega)) | (refine (if_neg ?_).trans ?_; ((try simp only [inB_t, inB_f, i_lt, i_le, i_eq, ne_eq, Bool.not_eq_true, Bool.not_eq_false, hpB, decide_eq_true_eq, decide_eq_false_iff_not, li_0, li_1, li_2, li_3, li_4, li_5, li_6, li_7, li_8, li_9, li_10, li_20, li_40, li_99, li_100, li_255, li_899, li_999, li_m1, li_m2, li_m3, li_m4, li_m11, li_m12, li_m13, li_m14, li_m100] at h4 hts h16 h28 h39 h100 h63 h139 h148 ⊢) <;> omega)) | fail)
                              all_goals (first | rfl | (exfalso; ((try simp only [inB_t, inB_f, i_lt, i_le, i_eq, ne_eq, Bool.not_eq_true, Bool.not_eq_false, hpB, decide_eq_true_eq, decide_eq_false_iff_not, li_0, li_1, li_2, li_3, li_4, li_5, li_6, li_7, li_8, li_9, li_10, li_20, li_40, li_99, li_100, li_255, li_899, li_999, li_m1, li_m2, li_m3, li_m4, li_m11, li_m12, li_m13, li_m14, li_m100] at h4 hts h16 h28 h39 h100 h63 h139 h148 ⊢) <;> omega)))) hB167 ((hZ167 _ _ (by decide) (by decide) (by omega) (by omega)).trans hg))
                      · refine x_aload_n (pc := 151) C 2 dX12_plan_151 rfl ?_
                        refine x_iconst (pc := 152) (v := 2) C dX12_plan_152 rfl ?_
                        refine x_callV (pc := 153) C E [.int 2] [] (c_X12_safe t eMx.1 (gn := 0) eMx.2.1 2) m_X12_safe q35_2 xo_M rfl (by first | decide | omega) (Nat.le_of_ble_eq_true rfl) dX12_plan_153 rfl (k_I ?_)
                        refine x_eq (show _ = vSafe w 2 from vSafeG_0 _ _) ?_
                        refine x_goto (pc := 156) C 163 dX12_plan_156 (by decide) ?_
                        refine x_istore (pc := 163) (L' := [(4, .int (vSafe w 2)), (3, .int (nI i)), (0, .ref (t.1 0)), (1, .int (nI s)), (2, .int x2)]) C dX12_plan_163 (by decide) rfl ?_
                        refine x_aload_n (pc := 165) C 2 dX12_plan_165 rfl ?_
                        refine x_iconst (pc := 166) (v := (nI 0)) C dX12_plan_166 (by decide) ?_
                        refine x_callV (pc := 167) C E [.int (nI 0)] [] (c_X12_laysBack t _ (L := 0) (by omega)) m_X12_laysBack q36_23 xo_M rfl (by first | decide | omega) (Nat.le_of_ble_eq_true rfl) dX12_plan_167 rfl (fun r M167 hc167 => ?_)
                        obtain ⟨rfl, hL167⟩ := hc167
                        obtain ⟨hB167, hZ167⟩ := rr_back h hK49 eMx.2.2.1 hL167
                        show XV κ (xP (wR t) M167) 170 _ []
                        refine x_iload (pc := 170) C 0 dX12_plan_170 rfl ?_
                        exact x_iret (pc := 172) C X dX12_plan_172 (faq (by
                              unfold a_plan
                              simp only [hos]
                              refine (if_neg (by ((try simp only [inB_t, inB_f, i_lt, i_le, i_eq, ne_eq, Bool.not_eq_true, Bool.not_eq_false, hpB, decide_eq_true_eq, decide_eq_false_iff_not, li_0, li_1, li_2, li_3, li_4, li_5, li_6, li_7, li_8, li_9, li_10, li_20, li_40, li_99, li_100, li_255, li_899, li_999, li_m1, li_m2, li_m3, li_m4, li_m11, li_m12, li_m13, li_m14, li_m100] at h4 hts h16 h28 h39 h100 h63 h139 h148 ⊢) <;> omega))).trans ?_
                              refine (if_neg hss).trans ?_
                              refine (if_neg (fun e => e.elim (fun g => g hev) (fun g => by rw [hsT] at g; cases g))).trans ?_
                              rw [← hl, cpF_n (w := w) hn6 ha hb ea eb h100]
                              repeat (first | with_reducible rfl | (refine (if_pos ?_).trans ?_; ((try simp only [inB_t, inB_f, i_lt, i_le, i_eq, ne_eq, Bool.not_eq_true, Bool.not_eq_false, hpB, decide_eq_true_eq, decide_eq_false_iff_not, li_0, li_1, li_2, li_3, li_4, li_5, li_6, li_7, li_8, li_9, li_10, li_20, li_40, li_99, li_100, li_255, li_899, li_999, li_m1, li_m2, li_m3, li_m4, li_m11, li_m12, li_m13, li_m14, li_m100] at h4 hts h16 h28 h39 h100 h63 h139 h148 ⊢) <;> omega)) | (refine (if_neg ?_).trans ?_; ((try simp only [inB_t, inB_f, i_lt, i_le, i_eq, ne_eq, Bool.not_eq_true, Bool.not_eq_false, hpB, decide_eq_true_eq, decide_eq_false_iff_not, li_0, li_1, li_2, li_3, li_4, li_5, li_6, li_7, li_8, li_9, li_10, li_20, li_40, li_99, li_100, li_255, li_899, li_999, li_m1, li_m2, li_m3, li_m4, li_m11, li_m12, li_m13, li_m14, li_m100] at h4 hts h16 h28 h39 h100 h63 h139 h148 ⊢) <;> omega)) | fail)
                              all_goals (first | rfl | (exfalso; ((try simp only [inB_t, inB_f, i_lt, i_le, i_eq, ne_eq, Bool.not_eq_true, Bool.not_eq_false, hpB, decide_eq_true_eq, decide_eq_false_iff_not, li_0, li_1, li_2, li_3, li_4, li_5, li_6, li_7, li_8, li_9, li_10, li_20, li_40, li_99, li_100, li_255, li_899, li_999, li_m1, li_m2, li_m3, li_m4, li_m11, li_m12, li_m13, li_m14, li_m100] at h4 hts h16 h28 h39 h100 h63 h139 h148 ⊢) <;> omega)))) hB167 ((hZ167 _ _ (by decide) (by decide) (by omega) (by omega)).trans hg))
                    · refine x_iload_n (pc := 142) C 1 dX12_plan_142 rfl ?_
                      refine x_goto (pc := 143) C 163 dX12_plan_143 (by decide) ?_
                      refine x_istore (pc := 163) (L' := [(4, .int (nI i)), (3, .int (nI i)), (0, .ref (t.1 0)), (1, .int (nI s)), (2, .int x2)]) C dX12_plan_163 (by decide) rfl ?_
                      refine x_aload_n (pc := 165) C 2 dX12_plan_165 rfl ?_
                      refine x_iconst (pc := 166) (v := (nI 0)) C dX12_plan_166 (by decide) ?_
                      refine x_callV (pc := 167) C E [.int (nI 0)] [] (c_X12_laysBack t _ (L := 0) (by omega)) m_X12_laysBack q36_23 xo_M rfl (by first | decide | omega) (Nat.le_of_ble_eq_true rfl) dX12_plan_167 rfl (fun r M167 hc167 => ?_)
                      obtain ⟨rfl, hL167⟩ := hc167
                      obtain ⟨hB167, hZ167⟩ := rr_back h hK49 eMx.2.2.1 hL167
                      show XV κ (xP (wR t) M167) 170 _ []
                      refine x_iload (pc := 170) C 0 dX12_plan_170 rfl ?_
                      exact x_iret (pc := 172) C X dX12_plan_172 (faq (by
                            unfold a_plan
                            simp only [hos]
                            refine (if_neg (by ((try simp only [inB_t, inB_f, i_lt, i_le, i_eq, ne_eq, Bool.not_eq_true, Bool.not_eq_false, hpB, decide_eq_true_eq, decide_eq_false_iff_not, li_0, li_1, li_2, li_3, li_4, li_5, li_6, li_7, li_8, li_9, li_10, li_20, li_40, li_99, li_100, li_255, li_899, li_999, li_m1, li_m2, li_m3, li_m4, li_m11, li_m12, li_m13, li_m14, li_m100] at h4 hts h16 h28 h39 h100 h63 h139 ⊢) <;> omega))).trans ?_
                            refine (if_neg hss).trans ?_
                            refine (if_neg (fun e => e.elim (fun g => g hev) (fun g => by rw [hsT] at g; cases g))).trans ?_
                            rw [← hl, cpF_n (w := w) hn6 ha hb ea eb h100]
                            repeat (first | with_reducible rfl | (refine (if_pos ?_).trans ?_; ((try simp only [inB_t, inB_f, i_lt, i_le, i_eq, ne_eq, Bool.not_eq_true, Bool.not_eq_false, hpB, decide_eq_true_eq, decide_eq_false_iff_not, li_0, li_1, li_2, li_3, li_4, li_5, li_6, li_7, li_8, li_9, li_10, li_20, li_40, li_99, li_100, li_255, li_899, li_999, li_m1, li_m2, li_m3, li_m4, li_m11, li_m12, li_m13, li_m14, li_m100] at h4 hts h16 h28 h39 h100 h63 h139 ⊢) <;> omega)) | (refine (if_neg ?_).trans ?_; ((try simp only [inB_t, inB_f, i_lt, i_le, i_eq, ne_eq, Bool.not_eq_true, Bool.not_eq_false, hpB, decide_eq_true_eq, decide_eq_false_iff_not, li_0, li_1, li_2, li_3, li_4, li_5, li_6, li_7, li_8, li_9, li_10, li_20, li_40, li_99, li_100, li_255, li_899, li_999, li_m1, li_m2, li_m3, li_m4, li_m11, li_m12, li_m13, li_m14, li_m100] at h4 hts h16 h28 h39 h100 h63 h139 ⊢) <;> omega)) | fail)
                            all_goals (first | rfl | (exfalso; ((try simp only [inB_t, inB_f, i_lt, i_le, i_eq, ne_eq, Bool.not_eq_true, Bool.not_eq_false, hpB, decide_eq_true_eq, decide_eq_false_iff_not, li_0, li_1, li_2, li_3, li_4, li_5, li_6, li_7, li_8, li_9, li_10, li_20, li_40, li_99, li_100, li_255, li_899, li_999, li_m1, li_m2, li_m3, li_m4, li_m11, li_m12, li_m13, li_m14, li_m100] at h4 hts h16 h28 h39 h100 h63 h139 ⊢) <;> omega)))) hB167 ((hZ167 _ _ (by decide) (by decide) (by omega) (by omega)).trans hg))
                  · refine x_iload_n (pc := 66) C 1 dX12_plan_66 rfl ?_
                    refine x_iconst (pc := 67) (v := (-1)) C dX12_plan_67 rfl ?_
                    refine x_icmp_ne_t (pc := 68) C 138 dX12_plan_68 (by decide) (fun h => absurd (nI_toInt (n := i) (by omega)) (by rw [h]; simp)) ?_
                    refine x_iload_n (pc := 138) C 4 dX12_plan_138 rfl ?_
                    refine x_if_ne (pc := 139) C 146 dX12_plan_139 (by decide) (fun h139 => ?_) (fun h139 => ?_)
                    · refine x_iload_n (pc := 146) C 4 dX12_plan_146 rfl ?_
                      refine x_iconst (pc := 147) (v := 1) C dX12_plan_147 rfl ?_
                      refine x_icmp_ne (pc := 148) C 159 dX12_plan_148 (by decide) (fun h148 => ?_) (fun h148 => ?_)
                      · refine x_aload_n (pc := 159) C 2 dX12_plan_159 rfl ?_
                        refine x_callV (pc := 160) C E [] [] (c_X12_differ t eMx.1 eMx.2.1 ) m_X12_differ q34_18 xo_M rfl (by first | decide | omega) (Nat.le_of_ble_eq_true rfl) dX12_plan_160 rfl (k_I ?_)
                        refine x_istore (pc := 163) (L' := [(4, .int (mk (vDu w) 8)), (3, .int (nI i)), (0, .ref (t.1 0)), (1, .int (nI s)), (2, .int x2)]) C dX12_plan_163 (by decide) rfl ?_
                        refine x_aload_n (pc := 165) C 2 dX12_plan_165 rfl ?_
                        refine x_iconst (pc := 166) (v := (nI 0)) C dX12_plan_166 (by decide) ?_
                        refine x_callV (pc := 167) C E [.int (nI 0)] [] (c_X12_laysBack t _ (L := 0) (by omega)) m_X12_laysBack q36_23 xo_M rfl (by first | decide | omega) (Nat.le_of_ble_eq_true rfl) dX12_plan_167 rfl (fun r M167 hc167 => ?_)
                        obtain ⟨rfl, hL167⟩ := hc167
                        obtain ⟨hB167, hZ167⟩ := rr_back h hK49 eMx.2.2.1 hL167
                        show XV κ (xP (wR t) M167) 170 _ []
                        refine x_iload (pc := 170) C 0 dX12_plan_170 rfl ?_
                        exact x_iret (pc := 172) C X dX12_plan_172 (faq (by
                              unfold a_plan
                              simp only [hos]
                              refine (if_neg (by ((try simp only [inB_t, inB_f, i_lt, i_le, i_eq, ne_eq, Bool.not_eq_true, Bool.not_eq_false, hpB, decide_eq_true_eq, decide_eq_false_iff_not, li_0, li_1, li_2, li_3, li_4, li_5, li_6, li_7, li_8, li_9, li_10, li_20, li_40, li_99, li_100, li_255, li_899, li_999, li_m1, li_m2, li_m3, li_m4, li_m11, li_m12, li_m13, li_m14, li_m100] at h4 hts h16 h28 h39 h100 h63 h139 h148 ⊢) <;> omega))).trans ?_
                              refine (if_neg hss).trans ?_
                              refine (if_neg (fun e => e.elim (fun g => g hev) (fun g => by rw [hsT] at g; cases g))).trans ?_
                              rw [← hl, cpF_n (w := w) hn6 ha hb ea eb h100]
                              repeat (first | with_reducible rfl | (refine (if_pos ?_).trans ?_; ((try simp only [inB_t, inB_f, i_lt, i_le, i_eq, ne_eq, Bool.not_eq_true, Bool.not_eq_false, hpB, decide_eq_true_eq, decide_eq_false_iff_not, li_0, li_1, li_2, li_3, li_4, li_5, li_6, li_7, li_8, li_9, li_10, li_20, li_40, li_99, li_100, li_255, li_899, li_999, li_m1, li_m2, li_m3, li_m4, li_m11, li_m12, li_m13, li_m14, li_m100] at h4 hts h16 h28 h39 h100 h63 h139 h148 ⊢) <;> omega)) | (refine (if_neg ?_).trans ?_; ((try simp only [inB_t, inB_f, i_lt, i_le, i_eq, ne_eq, Bool.not_eq_true, Bool.not_eq_false, hpB, decide_eq_true_eq, decide_eq_false_iff_not, li_0, li_1, li_2, li_3, li_4, li_5, li_6, li_7, li_8, li_9, li_10, li_20, li_40, li_99, li_100, li_255, li_899, li_999, li_m1, li_m2, li_m3, li_m4, li_m11, li_m12, li_m13, li_m14, li_m100] at h4 hts h16 h28 h39 h100 h63 h139 h148 ⊢) <;> omega)) | fail)
                              all_goals (first | rfl | (exfalso; ((try simp only [inB_t, inB_f, i_lt, i_le, i_eq, ne_eq, Bool.not_eq_true, Bool.not_eq_false, hpB, decide_eq_true_eq, decide_eq_false_iff_not, li_0, li_1, li_2, li_3, li_4, li_5, li_6, li_7, li_8, li_9, li_10, li_20, li_40, li_99, li_100, li_255, li_899, li_999, li_m1, li_m2, li_m3, li_m4, li_m11, li_m12, li_m13, li_m14, li_m100] at h4 hts h16 h28 h39 h100 h63 h139 h148 ⊢) <;> omega)))) hB167 ((hZ167 _ _ (by decide) (by decide) (by omega) (by omega)).trans hg))
                      · refine x_aload_n (pc := 151) C 2 dX12_plan_151 rfl ?_
                        refine x_iconst (pc := 152) (v := 2) C dX12_plan_152 rfl ?_
                        refine x_callV (pc := 153) C E [.int 2] [] (c_X12_safe t eMx.1 (gn := 0) eMx.2.1 2) m_X12_safe q35_2 xo_M rfl (by first | decide | omega) (Nat.le_of_ble_eq_true rfl) dX12_plan_153 rfl (k_I ?_)
                        refine x_eq (show _ = vSafe w 2 from vSafeG_0 _ _) ?_
                        refine x_goto (pc := 156) C 163 dX12_plan_156 (by decide) ?_
                        refine x_istore (pc := 163) (L' := [(4, .int (vSafe w 2)), (3, .int (nI i)), (0, .ref (t.1 0)), (1, .int (nI s)), (2, .int x2)]) C dX12_plan_163 (by decide) rfl ?_
                        refine x_aload_n (pc := 165) C 2 dX12_plan_165 rfl ?_
                        refine x_iconst (pc := 166) (v := (nI 0)) C dX12_plan_166 (by decide) ?_
                        refine x_callV (pc := 167) C E [.int (nI 0)] [] (c_X12_laysBack t _ (L := 0) (by omega)) m_X12_laysBack q36_23 xo_M rfl (by first | decide | omega) (Nat.le_of_ble_eq_true rfl) dX12_plan_167 rfl (fun r M167 hc167 => ?_)
                        obtain ⟨rfl, hL167⟩ := hc167
                        obtain ⟨hB167, hZ167⟩ := rr_back h hK49 eMx.2.2.1 hL167
                        show XV κ (xP (wR t) M167) 170 _ []
                        refine x_iload (pc := 170) C 0 dX12_plan_170 rfl ?_
                        exact x_iret (pc := 172) C X dX12_plan_172 (faq (by
                              unfold a_plan
                              simp only [hos]
                              refine (if_neg (by ((try simp only [inB_t, inB_f, i_lt, i_le, i_eq, ne_eq, Bool.not_eq_true, Bool.not_eq_false, hpB, decide_eq_true_eq, decide_eq_false_iff_not, li_0, li_1, li_2, li_3, li_4, li_5, li_6, li_7, li_8, li_9, li_10, li_20, li_40, li_99, li_100, li_255, li_899, li_999, li_m1, li_m2, li_m3, li_m4, li_m11, li_m12, li_m13, li_m14, li_m100] at h4 hts h16 h28 h39 h100 h63 h139 h148 ⊢) <;> omega))).trans ?_
                              refine (if_neg hss).trans ?_
                              refine (if_neg (fun e => e.elim (fun g => g hev) (fun g => by rw [hsT] at g; cases g))).trans ?_
                              rw [← hl, cpF_n (w := w) hn6 ha hb ea eb h100]
                              repeat (first | with_reducible rfl | (refine (if_pos ?_).trans ?_; ((try simp only [inB_t, inB_f, i_lt, i_le, i_eq, ne_eq, Bool.not_eq_true, Bool.not_eq_false, hpB, decide_eq_true_eq, decide_eq_false_iff_not, li_0, li_1, li_2, li_3, li_4, li_5, li_6, li_7, li_8, li_9, li_10, li_20, li_40, li_99, li_100, li_255, li_899, li_999, li_m1, li_m2, li_m3, li_m4, li_m11, li_m12, li_m13, li_m14, li_m100] at h4 hts h16 h28 h39 h100 h63 h139 h148 ⊢) <;> omega)) | (refine (if_neg ?_).trans ?_; ((try simp only [inB_t, inB_f, i_lt, i_le, i_eq, ne_eq, Bool.not_eq_true, Bool.not_eq_false, hpB, decide_eq_true_eq, decide_eq_false_iff_not, li_0, li_1, li_2, li_3, li_4, li_5, li_6, li_7, li_8, li_9, li_10, li_20, li_40, li_99, li_100, li_255, li_899, li_999, li_m1, li_m2, li_m3, li_m4, li_m11, li_m12, li_m13, li_m14, li_m100] at h4 hts h16 h28 h39 h100 h63 h139 h148 ⊢) <;> omega)) | fail)
                              all_goals (first | rfl | (exfalso; ((try simp only [inB_t, inB_f, i_lt, i_le, i_eq, ne_eq, Bool.not_eq_true, Bool.not_eq_false, hpB, decide_eq_true_eq, decide_eq_false_iff_not, li_0, li_1, li_2, li_3, li_4, li_5, li_6, li_7, li_8, li_9, li_10, li_20, li_40, li_99, li_100, li_255, li_899, li_999, li_m1, li_m2, li_m3, li_m4, li_m11, li_m12, li_m13, li_m14, li_m100] at h4 hts h16 h28 h39 h100 h63 h139 h148 ⊢) <;> omega)))) hB167 ((hZ167 _ _ (by decide) (by decide) (by omega) (by omega)).trans hg))
                    · refine x_iload_n (pc := 142) C 1 dX12_plan_142 rfl ?_
                      refine x_goto (pc := 143) C 163 dX12_plan_143 (by decide) ?_
                      refine x_istore (pc := 163) (L' := [(4, .int (nI i)), (3, .int (nI i)), (0, .ref (t.1 0)), (1, .int (nI s)), (2, .int x2)]) C dX12_plan_163 (by decide) rfl ?_
                      refine x_aload_n (pc := 165) C 2 dX12_plan_165 rfl ?_
                      refine x_iconst (pc := 166) (v := (nI 0)) C dX12_plan_166 (by decide) ?_
                      refine x_callV (pc := 167) C E [.int (nI 0)] [] (c_X12_laysBack t _ (L := 0) (by omega)) m_X12_laysBack q36_23 xo_M rfl (by first | decide | omega) (Nat.le_of_ble_eq_true rfl) dX12_plan_167 rfl (fun r M167 hc167 => ?_)
                      obtain ⟨rfl, hL167⟩ := hc167
                      obtain ⟨hB167, hZ167⟩ := rr_back h hK49 eMx.2.2.1 hL167
                      show XV κ (xP (wR t) M167) 170 _ []
                      refine x_iload (pc := 170) C 0 dX12_plan_170 rfl ?_
                      exact x_iret (pc := 172) C X dX12_plan_172 (faq (by
                            unfold a_plan
                            simp only [hos]
                            refine (if_neg (by ((try simp only [inB_t, inB_f, i_lt, i_le, i_eq, ne_eq, Bool.not_eq_true, Bool.not_eq_false, hpB, decide_eq_true_eq, decide_eq_false_iff_not, li_0, li_1, li_2, li_3, li_4, li_5, li_6, li_7, li_8, li_9, li_10, li_20, li_40, li_99, li_100, li_255, li_899, li_999, li_m1, li_m2, li_m3, li_m4, li_m11, li_m12, li_m13, li_m14, li_m100] at h4 hts h16 h28 h39 h100 h63 h139 ⊢) <;> omega))).trans ?_
                            refine (if_neg hss).trans ?_
                            refine (if_neg (fun e => e.elim (fun g => g hev) (fun g => by rw [hsT] at g; cases g))).trans ?_
                            rw [← hl, cpF_n (w := w) hn6 ha hb ea eb h100]
                            repeat (first | with_reducible rfl | (refine (if_pos ?_).trans ?_; ((try simp only [inB_t, inB_f, i_lt, i_le, i_eq, ne_eq, Bool.not_eq_true, Bool.not_eq_false, hpB, decide_eq_true_eq, decide_eq_false_iff_not, li_0, li_1, li_2, li_3, li_4, li_5, li_6, li_7, li_8, li_9, li_10, li_20, li_40, li_99, li_100, li_255, li_899, li_999, li_m1, li_m2, li_m3, li_m4, li_m11, li_m12, li_m13, li_m14, li_m100] at h4 hts h16 h28 h39 h100 h63 h139 ⊢) <;> omega)) | (refine (if_neg ?_).trans ?_; ((try simp only [inB_t, inB_f, i_lt, i_le, i_eq, ne_eq, Bool.not_eq_true, Bool.not_eq_false, hpB, decide_eq_true_eq, decide_eq_false_iff_not, li_0, li_1, li_2, li_3, li_4, li_5, li_6, li_7, li_8, li_9, li_10, li_20, li_40, li_99, li_100, li_255, li_899, li_999, li_m1, li_m2, li_m3, li_m4, li_m11, li_m12, li_m13, li_m14, li_m100] at h4 hts h16 h28 h39 h100 h63 h139 ⊢) <;> omega)) | fail)
                            all_goals (first | rfl | (exfalso; ((try simp only [inB_t, inB_f, i_lt, i_le, i_eq, ne_eq, Bool.not_eq_true, Bool.not_eq_false, hpB, decide_eq_true_eq, decide_eq_false_iff_not, li_0, li_1, li_2, li_3, li_4, li_5, li_6, li_7, li_8, li_9, li_10, li_20, li_40, li_99, li_100, li_255, li_899, li_999, li_m1, li_m2, li_m3, li_m4, li_m11, li_m12, li_m13, li_m14, li_m100] at h4 hts h16 h28 h39 h100 h63 h139 ⊢) <;> omega)))) hB167 ((hZ167 _ _ (by decide) (by decide) (by omega) (by omega)).trans hg))
                  
                · refine x_aload_n (pc := 103) C 3 dX12_plan_103 rfl ?_
                  refine x_aload_n (pc := 104) C 3 dX12_plan_104 rfl ?_
                  refine g_M_items (pc := 105) C E q12_4 dX12_plan_105 ?_
                  refine x_iload (pc := 108) C 0 dX12_plan_108 rfl ?_
                  refine l_Ritems (pc := 110) C E (by omega) dX12_plan_110 ?_
                  refine x_eq (show Mx 15 (40 * s + (2 * i)) = (sH ((setV σ w)) s).2.2 (2 * i) from (rr_it eMx.1 (by omega) hss (by omega))) ?_
                  refine x_eq (show (sH ((setV σ w)) s).2.2 (2 * i) = nI a from ea) ?_
                  refine x_aload_n (pc := 111) C 3 dX12_plan_111 rfl ?_
                  refine g_M_items (pc := 112) C E q12_4 dX12_plan_112 ?_
                  refine x_iload (pc := 115) C 0 dX12_plan_115 rfl ?_
                  refine x_iconst (pc := 117) (v := 1) C dX12_plan_117 rfl ?_
                  refine x_iadd (pc := 118) C dX12_plan_118 ?_
                  refine x_eq (show (nI (40 * s + (2 * i))) + 1 = nI (40 * s + (2 * i + 1)) from nI_1 _) ?_
                  refine l_Ritems (pc := 119) C E (by omega) dX12_plan_119 ?_
                  refine x_eq (show Mx 15 (40 * s + (2 * i + 1)) = (sH ((setV σ w)) s).2.2 (2 * i + 1) from (rr_it eMx.1 (by omega) hss (by omega))) ?_
                  refine x_eq (show (sH ((setV σ w)) s).2.2 (2 * i + 1) = nI b from eb) ?_
                  refine x_callV (pc := 120) C E [.int (nI a), .int (nI b)] [] (c_X12_copiesAll t eMx.1 (a := a) (b := b) (show a < vN w by omega) (show b < vN w by omega)) m_X12_copiesAll q31_0 xo_M rfl (by first | decide | omega) (Nat.le_of_ble_eq_true rfl) dX12_plan_120 rfl (fun r M120 hc120 => ?_)
                  obtain ⟨rfl, hR120, hF120⟩ := hc120
                  show XV κ (xP (wR t) M120) 123 _ [.int (nI (sCp ((setV σ w)) w a b).2)]
                  refine x_pop (pc := 123) C dX12_plan_123 rfl ?_
                  refine x_goto (pc := 124) C 132 dX12_plan_124 (by decide) ?_
                  refine x_iinc (pc := 132) (v := nI ((2 * i) + 2)) (L' := [(4, .int (nI ((2 * i) + 2))), (5, .int (nI (40 * s + (2 * i)))), (3, .int (-1)), (0, .ref (t.1 0)), (1, .int (nI s)), (2, .int x2)]) C 1 dX12_plan_132 rfl (nI_add _ 2) (by decide) rfl ?_
                  refine x_goto (pc := 135) C 55 dX12_plan_135 (by decide) ?_
                  refine x_sub [0, 2, 3, 4, 5] rfl ?_
                  exact ih (i + 1) _ _ _ (by omega) rfl ⟨hR120, ((hF120 _ _ (by decide) (by decide) (by omega)).trans eMx.2.1), eMx.2.2.1.tr (FrK.c hF120), (sCp_rest (setV σ w) w a b).1.trans eMx.2.2.2.1, (sCp_R (setV σ w) w a b).trans eMx.2.2.2.2⟩ (by rw [← hl, cpF_y (w := w) hn6 ha hb ea eb h100, show sCp (setV σ w) (sV (setV σ w)) a b = sCp σ w a b from sCp_set σ w w a b eMx.2.2.2.2])
          refine x_sub [0, 1, 2, 3, 4] rfl ?_
          exact loop55 ((sH σ s).2.1 / 2) 0 _ M49 (sV σ) (by omega) rfl ⟨hR49, ((hK49.2 _ _ (by omega)).trans hg), FrK.rf, rfl, rfl⟩ rfl
        · refine x_bipush (pc := 42) (v := (-2)) C dX12_plan_42 rfl ?_
          exact x_iret (pc := 44) C X dX12_plan_44 (faq (by
                unfold a_plan
                simp only [hos]
                refine (if_neg (by ((try simp only [inB_t, inB_f, i_lt, i_le, i_eq, ne_eq, Bool.not_eq_true, Bool.not_eq_false, hpB, decide_eq_true_eq, decide_eq_false_iff_not, li_0, li_1, li_2, li_3, li_4, li_5, li_6, li_7, li_8, li_9, li_10, li_20, li_40, li_99, li_100, li_255, li_899, li_999, li_m1, li_m2, li_m3, li_m4, li_m11, li_m12, li_m13, li_m14, li_m100] at h4 hts h16 h28 h39 ⊢) <;> omega))).trans ?_
                refine (if_neg hss).trans ?_
                exact if_pos (pl_bad h39)) h hg)
      · have hns : (sH σ s).1 = -1 := (by
          by_cases e : (sH σ s).1 = -1
          · exact e
          · rw [decide_eq_false e] at h28; exact absurd h28 (by decide))
        refine x_bipush (pc := 31) (v := (-11)) C dX12_plan_31 rfl ?_
        exact x_iret (pc := 33) C X dX12_plan_33 (faq (by
              unfold a_plan
              simp only [hos, hos, hns]
              repeat (first | with_reducible rfl | (refine (if_pos ?_).trans ?_; ((try simp only [inB_t, inB_f, i_lt, i_le, i_eq, ne_eq, Bool.not_eq_true, Bool.not_eq_false, hpB, decide_eq_true_eq, decide_eq_false_iff_not, li_0, li_1, li_2, li_3, li_4, li_5, li_6, li_7, li_8, li_9, li_10, li_20, li_40, li_99, li_100, li_255, li_899, li_999, li_m1, li_m2, li_m3, li_m4, li_m11, li_m12, li_m13, li_m14, li_m100] at h4 hts h16 h28 ⊢) <;> omega)) | (refine (if_neg ?_).trans ?_; ((try simp only [inB_t, inB_f, i_lt, i_le, i_eq, ne_eq, Bool.not_eq_true, Bool.not_eq_false, hpB, decide_eq_true_eq, decide_eq_false_iff_not, li_0, li_1, li_2, li_3, li_4, li_5, li_6, li_7, li_8, li_9, li_10, li_20, li_40, li_99, li_100, li_255, li_899, li_999, li_m1, li_m2, li_m3, li_m4, li_m11, li_m12, li_m13, li_m14, li_m100] at h4 hts h16 h28 ⊢) <;> omega)) | fail)
              all_goals (first | with_reducible rfl | (exfalso; ((try simp only [inB_t, inB_f, i_lt, i_le, i_eq, ne_eq, Bool.not_eq_true, Bool.not_eq_false, hpB, decide_eq_true_eq, decide_eq_false_iff_not, li_0, li_1, li_2, li_3, li_4, li_5, li_6, li_7, li_8, li_9, li_10, li_20, li_40, li_99, li_100, li_255, li_899, li_999, li_m1, li_m2, li_m3, li_m4, li_m11, li_m12, li_m13, li_m14, li_m100] at h4 hts h16 h28 ⊢) <;> omega)))) h hg)
    · refine x_bipush (pc := 19) (v := (-2)) C dX12_plan_19 rfl ?_
      exact x_iret (pc := 21) C X dX12_plan_21 (faq (by
            unfold a_plan
            simp only [hos]
            repeat (first | with_reducible rfl | (refine (if_pos ?_).trans ?_; ((try simp only [inB_t, inB_f, i_lt, i_le, i_eq, ne_eq, Bool.not_eq_true, Bool.not_eq_false, hpB, decide_eq_true_eq, decide_eq_false_iff_not, li_0, li_1, li_2, li_3, li_4, li_5, li_6, li_7, li_8, li_9, li_10, li_20, li_40, li_99, li_100, li_255, li_899, li_999, li_m1, li_m2, li_m3, li_m4, li_m11, li_m12, li_m13, li_m14, li_m100] at h4 hts h16 ⊢) <;> omega)) | (refine (if_neg ?_).trans ?_; ((try simp only [inB_t, inB_f, i_lt, i_le, i_eq, ne_eq, Bool.not_eq_true, Bool.not_eq_false, hpB, decide_eq_true_eq, decide_eq_false_iff_not, li_0, li_1, li_2, li_3, li_4, li_5, li_6, li_7, li_8, li_9, li_10, li_20, li_40, li_99, li_100, li_255, li_899, li_999, li_m1, li_m2, li_m3, li_m4, li_m11, li_m12, li_m13, li_m14, li_m100] at h4 hts h16 ⊢) <;> omega)) | fail)
            all_goals (first | with_reducible rfl | (exfalso; ((try simp only [inB_t, inB_f, i_lt, i_le, i_eq, ne_eq, Bool.not_eq_true, Bool.not_eq_false, hpB, decide_eq_true_eq, decide_eq_false_iff_not, li_0, li_1, li_2, li_3, li_4, li_5, li_6, li_7, li_8, li_9, li_10, li_20, li_40, li_99, li_100, li_255, li_899, li_999, li_m1, li_m2, li_m3, li_m4, li_m11, li_m12, li_m13, li_m14, li_m100] at h4 hts h16 ⊢) <;> omega)))) h hg)

