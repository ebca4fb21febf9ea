set_option maxRecDepth 100000 in
set_option maxHeartbeats 800000 in
theorem c_X12_letGo (t : CT) {σ : SV} {M : MM} (h : RR σ M) (hg : M 0 28 = 0)  : XMet (wR t) yX12_letGo cX12_letGo 4 (some .int) 4 [.ref (t.1 0)] M (oQ (σ, a_letGo σ)) := by
  refine x_met RX12 (by decide) rfl (Nat.le_of_ble_eq_true rfl) (fun κ C X E => ?_)
  refine x_L (L' := [(0, .ref (t.1 0))]) rfl ?_
  have hn6 := rr_n6 h
  have hN6 := h.1.1
  have hq := rr_q h
  have hB := h.1.2.1
  refine x_aload_n (pc := 0) C 0 dX12_letGo_0 rfl ?_
  refine x_iconst (pc := 1) (v := 1) C dX12_letGo_1 rfl ?_
  refine x_callV (pc := 2) C E [.int 1] [] (c_X12_safe t h (gn := 0) hg 1) m_X12_safe q35_2 xo_M rfl (by first | decide | omega) (Nat.le_of_ble_eq_true rfl) dX12_letGo_2 rfl (k_I ?_)
  refine x_eq (show _ = vSafe (sV (σ)) 1 from vSafeG_0 _ _) ?_
  refine x_eq (show vSafe (sV (σ)) 1 = mk (saP (sV σ) 0 1) 8 from (vSafeG_0 _ _).symm) ?_
  refine x_istore_n (pc := 5) (L' := [(1, .int (mk (saP (sV σ) 0 1) 8)), (0, .ref (t.1 0))]) C dX12_letGo_5 (by decide) rfl ?_
  refine x_iconst (pc := 6) (v := 0) C dX12_letGo_6 rfl ?_
  refine x_istore_n (pc := 7) (L' := [(2, .int 0), (1, .int (mk (saP (sV σ) 0 1) 8)), (0, .ref (t.1 0))]) C dX12_letGo_7 (by decide) rfl ?_
  have loop8 : ∀ (k d : Nat) (y : Int32) (Mx : MM) , d + k = vN (sV σ) → y = nI d → (RR σ Mx ∧ Mx 0 28 = 0) → lgF σ d k = a_letGo σ → XV κ (xP (wR t) Mx) 8 [(2, .int y), (1, .int (mk (saP (sV σ) 0 1) 8)), (0, .ref (t.1 0))] [] := by
    intro k
    induction k with
      | zero =>
        intro d y Mx  hcnt ey eMx hl
        subst ey
        obtain rfl : vN (sV σ) = d := by omega
        refine x_iload_n (pc := 8) C 0 dX12_letGo_8 rfl ?_
        refine x_aload_n (pc := 9) C 2 dX12_letGo_9 rfl ?_
        refine g_M_many (pc := 10) C E q13_13 dX12_letGo_10 ?_
        refine x_eq (show Mx 0 12 = nI (vN (sV (σ))) from (rr_size eMx.1)) ?_
        refine x_icmp_ge_t (pc := 13) C 61 dX12_letGo_13 (by decide) (nI_le (by omega) (by omega)) ?_
        refine x_iconst (pc := 61) (v := (-1)) C dX12_letGo_61 rfl ?_
        exact x_iret (pc := 62) C X dX12_letGo_62 (faq hl.symm eMx.1 eMx.2)
      | succ k ih =>
        intro d y Mx  hcnt ey eMx hl
        subst ey
        have hi8 : d < vN (sV σ) := by omega
        refine x_iload_n (pc := 8) C 0 dX12_letGo_8 rfl ?_
        refine x_aload_n (pc := 9) C 2 dX12_letGo_9 rfl ?_
        refine g_M_many (pc := 10) C E q13_13 dX12_letGo_10 ?_
        refine x_eq (show Mx 0 12 = nI (vN (sV (σ))) from (rr_size eMx.1)) ?_
        refine x_icmp_ge_f (pc := 13) C 61 dX12_letGo_13 (by decide) (nI_ge (by omega) (by omega)) ?_
        refine x_aload_n (pc := 16) C 2 dX12_letGo_16 rfl ?_
        refine x_iload_n (pc := 17) C 0 dX12_letGo_17 rfl ?_
        refine x_callV (pc := 18) C E [.int (nI d)] [] ( c_X12_reads t eMx.1 (d := d) (by omega)) m_X12_reads q13_20 xo_M rfl (by decide) (Nat.le_of_ble_eq_true rfl) dX12_letGo_18 rfl (k_I ?_)
        refine x_ifb_eq (pc := 21) C 55 dX12_letGo_21 (by decide) (fun h21 => ?_) (fun h21 => ?_)
        · refine x_iinc (pc := 55) (v := nI (d + 1)) (L' := [(2, .int (nI (d + 1))), (1, .int (mk (saP (sV σ) 0 1) 8)), (0, .ref (t.1 0))]) C 0 dX12_letGo_55 rfl (nI_1 _) (by decide) rfl ?_
          refine x_goto (pc := 58) C 8 dX12_letGo_58 (by decide) ?_
          refine x_sub [0, 1, 2] rfl ?_
          exact ih (d + 1) _ _ (by omega) rfl eMx (by rw [← hl, lgF, if_neg (by rw [h21]; exact Bool.false_ne_true)])
        · refine x_aload_n (pc := 24) C 2 dX12_letGo_24 rfl ?_
          refine x_iconst (pc := 25) (v := 1) C dX12_letGo_25 rfl ?_
          refine x_iload_n (pc := 26) C 0 dX12_letGo_26 rfl ?_
          refine x_ishl (pc := 27) C dX12_letGo_27 ?_
          refine p_M_gone (pc := 28) C E q32_8 dX12_letGo_28 ?_
          refine x_aload_n (pc := 31) C 2 dX12_letGo_31 rfl ?_
          refine x_iconst (pc := 32) (v := 1) C dX12_letGo_32 rfl ?_
          refine x_callV (pc := 33) C E [.int 1] [] (c_X12_safe t (rr_cell (b := 28) eMx.1 _ (by unfold relR; omega)) (gn := 1 <<< ((nI d) &&& 31)) (mu_s _ _ _ _) 1) m_X12_safe q35_2 xo_M rfl (by first | decide | omega) (Nat.le_of_ble_eq_true rfl) dX12_letGo_33 rfl (k_I ?_)
          refine x_eq (show vSafeG (sV (σ)) (1 <<< ((nI d) &&& 31)) 1 = mk (saP (sV σ) (1 <<< (nI d &&& 31)) 1) 8 from rfl) ?_
          refine x_istore_n (pc := 36) (L' := [(3, .int (mk (saP (sV σ) (1 <<< (nI d &&& 31)) 1) 8)), (2, .int (nI d)), (1, .int (mk (saP (sV σ) 0 1) 8)), (0, .ref (t.1 0))]) C dX12_letGo_36 (by decide) rfl ?_
          refine x_aload_n (pc := 37) C 3 dX12_letGo_37 rfl ?_
          refine x_iconst (pc := 38) (v := 0) C dX12_letGo_38 rfl ?_
          refine p_M_gone (pc := 39) C E q32_8 dX12_letGo_39 ?_
          refine x_iload_n (pc := 42) C 0 dX12_letGo_42 rfl ?_
          refine x_callS (pc := 43) C E [.int (mk (saP (sV σ) (1 <<< (nI d &&& 31)) 1) 8)] [] (c_bits t _ (p := (saP (sV σ) (1 <<< (nI d &&& 31)) 1)) (n := 8) (by omega)) m_X12_bitsOf q35_6 rfl (by first | decide | omega) (Nat.le_of_ble_eq_true rfl) dX12_letGo_43 rfl (k_I ?_)
          refine x_iload_n (pc := 46) C 2 dX12_letGo_46 rfl ?_
          refine x_callS (pc := 47) C E [.int (mk (saP (sV σ) 0 1) 8)] [.int (nI (cnt (saP (sV σ) (1 <<< (nI d &&& 31)) 1) 8))] (c_bits t _ (p := (saP (sV σ) 0 1)) (n := 8) (by omega)) m_X12_bitsOf q35_6 rfl (by first | decide | omega) (Nat.le_of_ble_eq_true rfl) dX12_letGo_47 rfl (k_I ?_)
          refine x_icmp_lt (pc := 50) C 55 dX12_letGo_50 (by decide) (fun h50 => ?_) (fun h50 => ?_)
          · refine x_iinc (pc := 55) (v := nI (d + 1)) (L' := [(2, .int (nI (d + 1))), (3, .int (mk (saP (sV σ) (1 <<< (nI d &&& 31)) 1) 8)), (1, .int (mk (saP (sV σ) 0 1) 8)), (0, .ref (t.1 0))]) C 1 dX12_letGo_55 rfl (nI_1 _) (by decide) rfl ?_
            refine x_goto (pc := 58) C 8 dX12_letGo_58 (by decide) ?_
            refine x_sub [0, 2, 3] rfl ?_
            exact ih (d + 1) _ _ (by omega) rfl ⟨(rr_cell (b := 28) (rr_cell (b := 28) eMx.1 _ (by unfold relR; omega)) _ (by unfold relR; omega)), (mu_s _ _ _ _)⟩ (by rw [← hl, lgF, if_neg (by rw [h21, decide_eq_false (fun e => (lg_iff hn6 (d := d) (by omega)).mpr e h50)]; exact Bool.false_ne_true)])
          · refine x_iload_n (pc := 53) C 1 dX12_letGo_53 rfl ?_
            exact x_iret (pc := 54) C X dX12_letGo_54 (faq (hl.symm.trans (by rw [lgF, if_pos (by rw [h21, decide_eq_true ((lg_iff hn6 (d := d) (by omega)).mp h50)]; rfl)])) (rr_cell (b := 28) (rr_cell (b := 28) eMx.1 _ (by unfold relR; omega)) _ (by unfold relR; omega)) (mu_s _ _ _ _))
  refine x_sub [0, 1, 2] rfl ?_
  exact loop8 (vN (sV σ)) 0 _ M (by omega) rfl ⟨h, hg⟩ rfl

set_option maxRecDepth 100000 in
set_option maxHeartbeats 800000 in
theorem c_X12_worst (t : CT) {σ : SV} {M : MM} (h : RR σ M) (hg : M 0 28 = 0) (x1 : Int32)  : XMet (wR t) yX12_worst cX12_worst 6 (some .int) 65 [.ref (t.1 0), .int x1] M (oQ (σ, a_worst σ x1)) := by
  refine x_met RX12 (by decide) rfl (Nat.le_of_ble_eq_true rfl) (fun κ C X E => ?_)
  refine x_L (L' := [(0, .ref (t.1 0)), (1, .int x1)]) rfl ?_
  have hn6 := rr_n6 h
  have hN6 := h.1.1
  have hq := rr_q h
  have hB := h.1.2.1
  refine x_iload_n (pc := 0) C 1 dX12_worst_0 rfl ?_
  refine x_i2l (pc := 1) C dX12_worst_1 ?_
  refine x_lconst (pc := 2) (v := 0) C dX12_worst_2 rfl ?_
  refine x_lconst (pc := 3) (v := 1) C dX12_worst_3 rfl ?_
  refine x_callS (pc := 4) C E [.long (Int32.toInt64 x1), .long 0, .long 1] [] (c_X12_inB t _ x1 (n := 2) (by decide) (by decide)) m_X12_in q13_6 rfl (by decide) (Nat.le_of_ble_eq_true rfl) dX12_worst_4 rfl (k_I ?_)
  refine x_ifb_ne (pc := 7) C 13 dX12_worst_7 (by decide) (fun h7 => ?_) (fun h7 => ?_)
  · refine x_iconst (pc := 13) (v := (-1)) C dX12_worst_13 rfl ?_
    refine x_istore_n (pc := 14) (L' := [(2, .int (-1)), (0, .ref (t.1 0)), (1, .int x1)]) C dX12_worst_14 (by decide) rfl ?_
    refine x_iconst (pc := 15) (v := (-1)) C dX12_worst_15 rfl ?_
    refine x_istore_n (pc := 16) (L' := [(3, .int (-1)), (2, .int (-1)), (0, .ref (t.1 0)), (1, .int x1)]) C dX12_worst_16 (by decide) rfl ?_
    refine x_iconst (pc := 17) (v := 0) C dX12_worst_17 rfl ?_
    refine x_istore (pc := 18) (L' := [(4, .int 0), (3, .int (-1)), (2, .int (-1)), (0, .ref (t.1 0)), (1, .int x1)]) C dX12_worst_18 (by decide) rfl ?_
    have loop20 : ∀ (k d : Nat) (a : Int32) (b : Int32) (y : Int32) (Mx : MM) , d + k = vN (sV σ) → a = (wsF σ d).1 → b = (wsF σ d).2 → y = nI d → (RR σ Mx ∧ Mx 0 28 = 0) → XV κ (xP (wR t) Mx) 20 [(4, .int y), (3, .int b), (2, .int a), (0, .ref (t.1 0)), (1, .int x1)] [] := by
      intro k
      induction k with
        | zero =>
          intro d a b y Mx  hcnt ea eb ey eMx
          subst ea
          subst eb
          subst ey
          obtain rfl : vN (sV σ) = d := by omega
          refine x_iload (pc := 20) C 0 dX12_worst_20 rfl ?_
          refine x_aload_n (pc := 22) C 3 dX12_worst_22 rfl ?_
          refine g_M_many (pc := 23) C E q13_13 dX12_worst_23 ?_
          refine x_eq (show Mx 0 12 = nI (vN (sV (σ))) from (rr_size eMx.1)) ?_
          refine x_icmp_ge_t (pc := 26) C 80 dX12_worst_26 (by decide) (nI_le (by omega) (by omega)) ?_
          refine x_iload_n (pc := 80) C 4 dX12_worst_80 rfl ?_
          refine x_if_ne (pc := 81) C 88 dX12_worst_81 (by decide) (fun h81 => ?_) (fun h81 => ?_)
          · refine x_iload_n (pc := 88) C 1 dX12_worst_88 rfl ?_
            exact x_iret (pc := 89) C X dX12_worst_89 (faq (by
                  unfold a_worst
                  repeat (first | with_reducible rfl | (refine (if_pos ?_).trans ?_; ((try simp only [inB_t, inB_f, i_lt, i_le, i_eq, ne_eq, Bool.not_eq_true, Bool.not_eq_false, hpB, decide_eq_true_eq, decide_eq_false_iff_not, li_0, li_1, li_2, li_3, li_4, li_5, li_6, li_7, li_8, li_9, li_10, li_20, li_40, li_99, li_100, li_255, li_899, li_999, li_m1, li_m2, li_m3, li_m4, li_m11, li_m12, li_m13, li_m14, li_m100] at h7 h81 ⊢) <;> omega)) | (refine (if_neg ?_).trans ?_; ((try simp only [inB_t, inB_f, i_lt, i_le, i_eq, ne_eq, Bool.not_eq_true, Bool.not_eq_false, hpB, decide_eq_true_eq, decide_eq_false_iff_not, li_0, li_1, li_2, li_3, li_4, li_5, li_6, li_7, li_8, li_9, li_10, li_20, li_40, li_99, li_100, li_255, li_899, li_999, li_m1, li_m2, li_m3, li_m4, li_m11, li_m12, li_m13, li_m14, li_m100] at h7 h81 ⊢) <;> omega)) | fail)
                  all_goals (first | with_reducible rfl | (exfalso; ((try simp only [inB_t, inB_f, i_lt, i_le, i_eq, ne_eq, Bool.not_eq_true, Bool.not_eq_false, hpB, decide_eq_true_eq, decide_eq_false_iff_not, li_0, li_1, li_2, li_3, li_4, li_5, li_6, li_7, li_8, li_9, li_10, li_20, li_40, li_99, li_100, li_255, li_899, li_999, li_m1, li_m2, li_m3, li_m4, li_m11, li_m12, li_m13, li_m14, li_m100] at h7 h81 ⊢) <;> omega)))) eMx.1 eMx.2)
          · refine x_iload_n (pc := 84) C 2 dX12_worst_84 rfl ?_
            refine x_goto (pc := 85) C 89 dX12_worst_85 (by decide) ?_
            exact x_iret (pc := 89) C X dX12_worst_89 (faq (by
                  unfold a_worst
                  repeat (first | with_reducible rfl | (refine (if_pos ?_).trans ?_; ((try simp only [inB_t, inB_f, i_lt, i_le, i_eq, ne_eq, Bool.not_eq_true, Bool.not_eq_false, hpB, decide_eq_true_eq, decide_eq_false_iff_not, li_0, li_1, li_2, li_3, li_4, li_5, li_6, li_7, li_8, li_9, li_10, li_20, li_40, li_99, li_100, li_255, li_899, li_999, li_m1, li_m2, li_m3, li_m4, li_m11, li_m12, li_m13, li_m14, li_m100] at h7 h81 ⊢) <;> omega)) | (refine (if_neg ?_).trans ?_; ((try simp only [inB_t, inB_f, i_lt, i_le, i_eq, ne_eq, Bool.not_eq_true, Bool.not_eq_false, hpB, decide_eq_true_eq, decide_eq_false_iff_not, li_0, li_1, li_2, li_3, li_4, li_5, li_6, li_7, li_8, li_9, li_10, li_20, li_40, li_99, li_100, li_255, li_899, li_999, li_m1, li_m2, li_m3, li_m4, li_m11, li_m12, li_m13, li_m14, li_m100] at h7 h81 ⊢) <;> omega)) | fail)
                  all_goals (first | with_reducible rfl | (exfalso; ((try simp only [inB_t, inB_f, i_lt, i_le, i_eq, ne_eq, Bool.not_eq_true, Bool.not_eq_false, hpB, decide_eq_true_eq, decide_eq_false_iff_not, li_0, li_1, li_2, li_3, li_4, li_5, li_6, li_7, li_8, li_9, li_10, li_20, li_40, li_99, li_100, li_255, li_899, li_999, li_m1, li_m2, li_m3, li_m4, li_m11, li_m12, li_m13, li_m14, li_m100] at h7 h81 ⊢) <;> omega)))) eMx.1 eMx.2)
        | succ k ih =>
          intro d a b y Mx  hcnt ea eb ey eMx
          subst ea
          subst eb
          subst ey
          have hi20 : d < vN (sV σ) := by omega
          refine x_iload (pc := 20) C 0 dX12_worst_20 rfl ?_
          refine x_aload_n (pc := 22) C 3 dX12_worst_22 rfl ?_
          refine g_M_many (pc := 23) C E q13_13 dX12_worst_23 ?_
          refine x_eq (show Mx 0 12 = nI (vN (sV (σ))) from (rr_size eMx.1)) ?_
          refine x_icmp_ge_f (pc := 26) C 80 dX12_worst_26 (by decide) (nI_ge (by omega) (by omega)) ?_
          refine x_aload_n (pc := 29) C 3 dX12_worst_29 rfl ?_
          refine x_iload (pc := 30) C 0 dX12_worst_30 rfl ?_
          refine x_callV (pc := 32) C E [.int (nI d)] [] ( c_X12_reads t eMx.1 (d := d) (by omega)) m_X12_reads q13_20 xo_M rfl (by decide) (Nat.le_of_ble_eq_true rfl) dX12_worst_32 rfl (k_I ?_)
          refine x_ifb_eq (pc := 35) C 74 dX12_worst_35 (by decide) (fun h35 => ?_) (fun h35 => ?_)
          · refine x_iinc (pc := 74) (v := nI (d + 1)) (L' := [(4, .int (nI (d + 1))), (3, .int ((wsF σ d).2)), (2, .int ((wsF σ d).1)), (0, .ref (t.1 0)), (1, .int x1)]) C 0 dX12_worst_74 rfl (nI_1 _) (by decide) rfl ?_
            refine x_goto (pc := 77) C 20 dX12_worst_77 (by decide) ?_
            refine x_sub [0, 1, 2, 3, 4] rfl ?_
            exact ih (d + 1) _ _ _ _ (by omega) (by rw [wsF]; simp [h35]) (by rw [wsF]; simp [h35]) rfl eMx
          · refine x_aload_n (pc := 38) C 3 dX12_worst_38 rfl ?_
            refine x_iconst (pc := 39) (v := 1) C dX12_worst_39 rfl ?_
            refine x_iload (pc := 40) C 0 dX12_worst_40 rfl ?_
            refine x_ishl (pc := 42) C dX12_worst_42 ?_
            refine p_M_gone (pc := 43) C E q32_8 dX12_worst_43 ?_
            refine x_aload_n (pc := 46) C 3 dX12_worst_46 rfl ?_
            refine x_callV (pc := 47) C E [] [] (c_X12_worthAll t (rr_cell (b := 28) eMx.1 _ (by unfold relR; omega)) (gn := 1 <<< ((nI d) &&& 31)) (mu_s _ _ _ _)) m_X12_worthAll q35_13 xo_M rfl (by first | decide | omega) (Nat.le_of_ble_eq_true rfl) dX12_worst_47 rfl (fun r M47 hc47 => ?_)
            obtain ⟨rfl, hS47⟩ := hc47
            show XV κ (xP (wR t) M47) 50 _ [.int (sWs (σ) (woP (sV (σ)) (1 <<< ((nI d) &&& 31))) 8)]
            refine x_eq (show sWs (σ) (woP (sV (σ)) (1 <<< ((nI d) &&& 31))) 8 = wsX σ d from (sWs_or hn6 (wo_1 hn6 (by omega)))) ?_
            refine x_istore (pc := 50) (L' := [(5, .int (wsX σ d)), (4, .int (nI d)), (3, .int ((wsF σ d).2)), (2, .int ((wsF σ d).1)), (0, .ref (t.1 0)), (1, .int x1)]) C dX12_worst_50 (by decide) rfl ?_
            refine x_aload_n (pc := 52) C 4 dX12_worst_52 rfl ?_
            refine x_iconst (pc := 53) (v := 0) C dX12_worst_53 rfl ?_
            refine p_M_gone (pc := 54) C E q32_8 dX12_worst_54 ?_
            refine x_iload_n (pc := 57) C 3 dX12_worst_57 rfl ?_
            refine x_iconst (pc := 58) (v := (-1)) C dX12_worst_58 rfl ?_
            refine x_icmp_eq (pc := 59) C 68 dX12_worst_59 (by decide) (fun h59 => ?_) (fun h59 => ?_)
            · refine x_iload (pc := 68) C 1 dX12_worst_68 rfl ?_
              refine x_istore_n (pc := 70) (L' := [(2, .int (nI d)), (5, .int (wsX σ d)), (4, .int (nI d)), (3, .int ((wsF σ d).2)), (0, .ref (t.1 0)), (1, .int x1)]) C dX12_worst_70 (by decide) rfl ?_
              refine x_iload (pc := 71) C 1 dX12_worst_71 rfl ?_
              refine x_istore_n (pc := 73) (L' := [(3, .int (wsX σ d)), (2, .int (nI d)), (5, .int (wsX σ d)), (4, .int (nI d)), (0, .ref (t.1 0)), (1, .int x1)]) C dX12_worst_73 (by decide) rfl ?_
              refine x_iinc (pc := 74) (v := nI (d + 1)) (L' := [(4, .int (nI (d + 1))), (3, .int (wsX σ d)), (2, .int (nI d)), (5, .int (wsX σ d)), (0, .ref (t.1 0)), (1, .int x1)]) C 3 dX12_worst_74 rfl (nI_1 _) (by decide) rfl ?_
              refine x_goto (pc := 77) C 20 dX12_worst_77 (by decide) ?_
              refine x_sub [0, 1, 2, 4, 5] rfl ?_
              exact ih (d + 1) _ _ _ _ (by omega) (by rw [wsF]; simp [h35, h59]) (by rw [wsF]; simp [h35, h59]) rfl ⟨(rr_cell (b := 28) (rr_Sc (rr_cell (b := 28) eMx.1 _ (by unfold relR; omega)) hS47) _ (by unfold relR; omega)), (mu_s _ _ _ _)⟩
            · refine x_iload (pc := 62) C 0 dX12_worst_62 rfl ?_
              refine x_iload_n (pc := 64) C 2 dX12_worst_64 rfl ?_
              refine x_icmp_ge (pc := 65) C 74 dX12_worst_65 (by decide) (fun h65 => ?_) (fun h65 => ?_)
              · refine x_iinc (pc := 74) (v := nI (d + 1)) (L' := [(4, .int (nI (d + 1))), (5, .int (wsX σ d)), (3, .int ((wsF σ d).2)), (2, .int ((wsF σ d).1)), (0, .ref (t.1 0)), (1, .int x1)]) C 1 dX12_worst_74 rfl (nI_1 _) (by decide) rfl ?_
                refine x_goto (pc := 77) C 20 dX12_worst_77 (by decide) ?_
                refine x_sub [0, 2, 3, 4, 5] rfl ?_
                exact ih (d + 1) _ _ _ _ (by omega) (by rw [wsF]; simp [h35, h59, show ¬ wsX σ d < (wsF σ d).2 from Int32.not_lt.mpr h65]) (by rw [wsF]; simp [h35, h59, show ¬ wsX σ d < (wsF σ d).2 from Int32.not_lt.mpr h65]) rfl ⟨(rr_cell (b := 28) (rr_Sc (rr_cell (b := 28) eMx.1 _ (by unfold relR; omega)) hS47) _ (by unfold relR; omega)), (mu_s _ _ _ _)⟩
              · refine x_iload (pc := 68) C 1 dX12_worst_68 rfl ?_
                refine x_istore_n (pc := 70) (L' := [(2, .int (nI d)), (5, .int (wsX σ d)), (4, .int (nI d)), (3, .int ((wsF σ d).2)), (0, .ref (t.1 0)), (1, .int x1)]) C dX12_worst_70 (by decide) rfl ?_
                refine x_iload (pc := 71) C 1 dX12_worst_71 rfl ?_
                refine x_istore_n (pc := 73) (L' := [(3, .int (wsX σ d)), (2, .int (nI d)), (5, .int (wsX σ d)), (4, .int (nI d)), (0, .ref (t.1 0)), (1, .int x1)]) C dX12_worst_73 (by decide) rfl ?_
                refine x_iinc (pc := 74) (v := nI (d + 1)) (L' := [(4, .int (nI (d + 1))), (3, .int (wsX σ d)), (2, .int (nI d)), (5, .int (wsX σ d)), (0, .ref (t.1 0)), (1, .int x1)]) C 3 dX12_worst_74 rfl (nI_1 _) (by decide) rfl ?_
                refine x_goto (pc := 77) C 20 dX12_worst_77 (by decide) ?_
                refine x_sub [0, 1, 2, 4, 5] rfl ?_
                exact ih (d + 1) _ _ _ _ (by omega) (by rw [wsF]; simp [h35, h59, show wsX σ d < (wsF σ d).2 from Int32.not_le.mp h65]) (by rw [wsF]; simp [h35, h59, show wsX σ d < (wsF σ d).2 from Int32.not_le.mp h65]) rfl ⟨(rr_cell (b := 28) (rr_Sc (rr_cell (b := 28) eMx.1 _ (by unfold relR; omega)) hS47) _ (by unfold relR; omega)), (mu_s _ _ _ _)⟩
    refine x_sub [0, 1, 2, 3, 4] rfl ?_
    exact loop20 (vN (sV σ)) 0 _ _ _ M (by omega) rfl rfl rfl ⟨h, hg⟩
  · refine x_bipush (pc := 10) (v := (-2)) C dX12_worst_10 rfl ?_
    exact x_iret (pc := 12) C X dX12_worst_12 (faq (by
          unfold a_worst
          repeat (first | with_reducible rfl | (refine (if_pos ?_).trans ?_; ((try simp only [inB_t, inB_f, i_lt, i_le, i_eq, ne_eq, Bool.not_eq_true, Bool.not_eq_false, hpB, decide_eq_true_eq, decide_eq_false_iff_not, li_0, li_1, li_2, li_3, li_4, li_5, li_6, li_7, li_8, li_9, li_10, li_20, li_40, li_99, li_100, li_255, li_899, li_999, li_m1, li_m2, li_m3, li_m4, li_m11, li_m12, li_m13, li_m14, li_m100] at h7 ⊢) <;> omega)) | (refine (if_neg ?_).trans ?_; ((try simp only [inB_t, inB_f, i_lt, i_le, i_eq, ne_eq, Bool.not_eq_true, Bool.not_eq_false, hpB, decide_eq_true_eq, decide_eq_false_iff_not, li_0, li_1, li_2, li_3, li_4, li_5, li_6, li_7, li_8, li_9, li_10, li_20, li_40, li_99, li_100, li_255, li_899, li_999, li_m1, li_m2, li_m3, li_m4, li_m11, li_m12, li_m13, li_m14, li_m100] at h7 ⊢) <;> omega)) | fail)
          all_goals (first | with_reducible rfl | (exfalso; ((try simp only [inB_t, inB_f, i_lt, i_le, i_eq, ne_eq, Bool.not_eq_true, Bool.not_eq_false, hpB, decide_eq_true_eq, decide_eq_false_iff_not, li_0, li_1, li_2, li_3, li_4, li_5, li_6, li_7, li_8, li_9, li_10, li_20, li_40, li_99, li_100, li_255, li_899, li_999, li_m1, li_m2, li_m3, li_m4, li_m11, li_m12, li_m13, li_m14, li_m100] at h7 ⊢) <;> omega)))) h hg)

theorem stF_z (σ : SV) (s : Int32) : ∀ n, n ≤ vN (sV σ) → vN (sV σ) ≤ 6 → (stF σ s n).2 = zF σ s n ∧ ∀ e, e < vN (sV σ) → bt (stF σ s n).1 e = (vRd (sV σ) e && !(decide (e < n) && gpF σ s e)) := by
  intro n
  induction n with
  | zero =>
    intro _ h6
    refine ⟨rfl, fun e he => ?_⟩
    rw [show (stF σ s 0).1 = sRs σ from rfl, sRs_bt h6 he, decide_eq_false (Nat.not_lt_zero e)]
    exact (Bool.and_true _).symm
  | succ n ih =>
    intro hn h6
    obtain ⟨i1, i2⟩ := ih (by omega) h6
    have hb : bt (stF σ s n).1 n = vRd (sV σ) n := by
      rw [i2 n (by omega), decide_eq_false (Nat.lt_irrefl n)]
      exact Bool.and_true _
    rw [stF, hb, i1, zF]
    have hd : ∀ e, e < vN (sV σ) → e ≠ n → (decide (e < n + 1)) = decide (e < n) := fun e _ h => by
      by_cases g : e < n
      · rw [decide_eq_true g, decide_eq_true (by omega)]
      · rw [decide_eq_false g, decide_eq_false (by omega)]
    by_cases hv : vRd (sV σ) n = true
    · rw [if_pos hv, if_pos hv]
      refine ⟨rfl, fun e he => ?_⟩
      by_cases hl : lzR (lzN (zF σ s n)) < sLi σ (vR (sV σ)) (vU (sV σ) n)
      · rw [if_pos hl, bt_wo _ (by omega) (by omega), i2 e he]
        by_cases q : e = n
        · subst q
          rw [decide_eq_true rfl, decide_eq_true (Nat.lt_succ_self e), show gpF σ s e = true from by unfold gpF; rw [hv, decide_eq_true hl]; rfl]
          cases vRd (sV σ) e <;> cases decide (e < e) <;> rfl
        · rw [hd e he q, decide_eq_false q]
          exact Bool.and_true _
      · rw [if_neg hl, i2 e he]
        by_cases q : e = n
        · subst q
          rw [show gpF σ s e = false from by unfold gpF; rw [decide_eq_false hl]; exact Bool.and_false _]
          cases vRd (sV σ) e <;> cases decide (e < e) <;> cases decide (e < e + 1) <;> rfl
        · rw [hd e he q]
    · have hf : vRd (sV σ) n = false := Bool.eq_false_iff.mpr hv
      rw [if_neg hv, if_neg hv]
      refine ⟨i1, fun e he => ?_⟩
      rw [i2 e he]
      by_cases q : e = n
      · subst q
        rw [hf]
        rfl
      · rw [hd e he q]
theorem st_gb {σ : SV} (hn : vN (sV σ) ≤ 6) (s : Int32) : ∀ d, d < vN (sV σ) → bt (sSt σ s) d = (vRd (sV σ) d && !bt (gbS σ s) d) := fun d hd => by
  unfold sSt gbS
  rw [(stF_z σ s _ (Nat.le_refl _) hn).2 d hd, bt_mk _ _ (by omega) d (by omega)]
set_option maxRecDepth 100000 in
set_option maxHeartbeats 800000 in
theorem c_X12_lot (t : CT) {σ : SV} {M : MM} (h : RR σ M) (hg : M 0 28 = 0) (x1 : Int32)  : XMet (wR t) yX12_lot cX12_lot 3 (some .int) 66 [.ref (t.1 0), .int x1] M (oQ (σ, a_lot σ x1)) := by
  refine x_met RX12 (by decide) rfl (Nat.le_of_ble_eq_true rfl) (fun κ C X E => ?_)
  refine x_L (L' := [(0, .ref (t.1 0)), (1, .int x1)]) rfl ?_
  have hn6 := rr_n6 h
  have hN6 := h.1.1
  have hq := rr_q h
  have hB := h.1.2.1
  refine x_aload_n (pc := 0) C 0 dX12_lot_0 rfl ?_
  refine x_aload_n (pc := 1) C 0 dX12_lot_1 rfl ?_
  refine x_iload_n (pc := 2) C 1 dX12_lot_2 rfl ?_
  refine x_callV (pc := 3) C E [.int x1] [.ref (t.1 0)] (c_X12_goneBy t h x1) m_X12_goneBy q44_9 xo_M rfl (by first | decide | omega) (Nat.le_of_ble_eq_true rfl) dX12_lot_3 rfl (fun r M3 hc3 => ?_)
  obtain ⟨rfl, hS3⟩ := hc3
  show XV κ (xP (wR t) M3) 6 _ [.int (gbS σ x1), .ref (t.1 0)]
  refine p_M_gone (pc := 6) C E q32_8 dX12_lot_6 ?_
  refine x_aload_n (pc := 9) C 0 dX12_lot_9 rfl ?_
  refine x_callV (pc := 10) C E [] [] (c_X12_worthAll t (rr_cell (b := 28) (rr_Sc h hS3) _ (by unfold relR; omega)) (gn := gbS σ x1) (mu_s _ _ _ _)) m_X12_worthAll q35_13 xo_M rfl (by first | decide | omega) (Nat.le_of_ble_eq_true rfl) dX12_lot_10 rfl (fun r M10 hc10 => ?_)
  obtain ⟨rfl, hS10⟩ := hc10
  show XV κ (xP (wR t) M10) 13 _ [.int (sWs (σ) (woP (sV (σ)) (gbS σ x1)) 8)]
  refine x_eq (show sWs (σ) (woP (sV (σ)) (gbS σ x1)) 8 = sWs σ (bt (vOr (sV σ) (bt (sSt σ x1)))) 8 from (sWs_or hn6 (st_gb hn6 x1))) ?_
  refine x_istore_n (pc := 13) (L' := [(2, .int (sWs σ (bt (vOr (sV σ) (bt (sSt σ x1)))) 8)), (0, .ref (t.1 0)), (1, .int x1)]) C dX12_lot_13 (by decide) rfl ?_
  refine x_aload_n (pc := 14) C 1 dX12_lot_14 rfl ?_
  refine x_iconst (pc := 15) (v := 0) C dX12_lot_15 rfl ?_
  refine p_M_gone (pc := 16) C E q32_8 dX12_lot_16 ?_
  refine x_iload_n (pc := 19) C 0 dX12_lot_19 rfl ?_
  exact x_iret (pc := 20) C X dX12_lot_20 (faq rfl (rr_cell (b := 28) (rr_Sc (rr_cell (b := 28) (rr_Sc h hS3) _ (by unfold relR; omega)) hS10) _ (by unfold relR; omega)) (mu_s _ _ _ _))

