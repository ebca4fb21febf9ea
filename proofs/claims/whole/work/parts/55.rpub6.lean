def ovF (k : Int32) : Int32 := if k = 0 then -1 else if k = 3 then 1 else if k = 4 then 2 else 0
set_option maxRecDepth 100000 in
set_option maxHeartbeats 800000 in
theorem c_X12_over (t : CT) (M : MM) (k : Int32) : XMet (wR t) yX12_over cX12_over 1 (some .int) 1 [.int k] M (rI (ovF k) M) := by
  refine x_met RX12 (by decide) rfl (Nat.le_of_ble_eq_true rfl) (fun κ C X E => ?_)
  refine x_L (L' := [(0, .int k)]) rfl ?_
  refine x_iload_n (pc := 0) C 0 dX12_over_0 rfl ?_
  refine x_if_ne (pc := 1) C 8 dX12_over_1 (by decide) (fun h1 => ?_) (fun h1 => ?_)
  · refine x_iload_n (pc := 8) C 0 dX12_over_8 rfl ?_
    refine x_iconst (pc := 9) (v := 3) C dX12_over_9 rfl ?_
    refine x_icmp_ne (pc := 10) C 17 dX12_over_10 (by decide) (fun h10 => ?_) (fun h10 => ?_)
    · refine x_iload_n (pc := 17) C 0 dX12_over_17 rfl ?_
      refine x_iconst (pc := 18) (v := 4) C dX12_over_18 rfl ?_
      refine x_icmp_ne (pc := 19) C 26 dX12_over_19 (by decide) (fun h19 => ?_) (fun h19 => ?_)
      · refine x_iconst (pc := 26) (v := 0) C dX12_over_26 rfl ?_
        exact x_iret (pc := 27) C X dX12_over_27 (rI_i (Eq.symm (by
              unfold ovF
              repeat (first | with_reducible rfl | (refine (if_pos ?_).trans ?_; ((try simp only [inB_t, inB_f, i_lt, i_le, i_eq, ne_eq, Bool.not_eq_true, Bool.not_eq_false, hpB, decide_eq_true_eq, decide_eq_false_iff_not, li_0, li_1, li_2, li_3, li_4, li_5, li_6, li_7, li_8, li_9, li_10, li_20, li_40, li_99, li_100, li_255, li_899, li_999, li_m1, li_m2, li_m3, li_m4, li_m11, li_m12, li_m13, li_m14, li_m100] at h1 h10 h19 ⊢) <;> omega)) | (refine (if_neg ?_).trans ?_; ((try simp only [inB_t, inB_f, i_lt, i_le, i_eq, ne_eq, Bool.not_eq_true, Bool.not_eq_false, hpB, decide_eq_true_eq, decide_eq_false_iff_not, li_0, li_1, li_2, li_3, li_4, li_5, li_6, li_7, li_8, li_9, li_10, li_20, li_40, li_99, li_100, li_255, li_899, li_999, li_m1, li_m2, li_m3, li_m4, li_m11, li_m12, li_m13, li_m14, li_m100] at h1 h10 h19 ⊢) <;> omega)) | fail)
              all_goals (first | with_reducible rfl | (exfalso; ((try simp only [inB_t, inB_f, i_lt, i_le, i_eq, ne_eq, Bool.not_eq_true, Bool.not_eq_false, hpB, decide_eq_true_eq, decide_eq_false_iff_not, li_0, li_1, li_2, li_3, li_4, li_5, li_6, li_7, li_8, li_9, li_10, li_20, li_40, li_99, li_100, li_255, li_899, li_999, li_m1, li_m2, li_m3, li_m4, li_m11, li_m12, li_m13, li_m14, li_m100] at h1 h10 h19 ⊢) <;> omega))))))
      · refine x_iconst (pc := 22) (v := 2) C dX12_over_22 rfl ?_
        refine x_goto (pc := 23) C 27 dX12_over_23 (by decide) ?_
        exact x_iret (pc := 27) C X dX12_over_27 (rI_i (Eq.symm (by
              unfold ovF
              repeat (first | with_reducible rfl | (refine (if_pos ?_).trans ?_; ((try simp only [inB_t, inB_f, i_lt, i_le, i_eq, ne_eq, Bool.not_eq_true, Bool.not_eq_false, hpB, decide_eq_true_eq, decide_eq_false_iff_not, li_0, li_1, li_2, li_3, li_4, li_5, li_6, li_7, li_8, li_9, li_10, li_20, li_40, li_99, li_100, li_255, li_899, li_999, li_m1, li_m2, li_m3, li_m4, li_m11, li_m12, li_m13, li_m14, li_m100] at h1 h10 h19 ⊢) <;> omega)) | (refine (if_neg ?_).trans ?_; ((try simp only [inB_t, inB_f, i_lt, i_le, i_eq, ne_eq, Bool.not_eq_true, Bool.not_eq_false, hpB, decide_eq_true_eq, decide_eq_false_iff_not, li_0, li_1, li_2, li_3, li_4, li_5, li_6, li_7, li_8, li_9, li_10, li_20, li_40, li_99, li_100, li_255, li_899, li_999, li_m1, li_m2, li_m3, li_m4, li_m11, li_m12, li_m13, li_m14, li_m100] at h1 h10 h19 ⊢) <;> omega)) | fail)
              all_goals (first | with_reducible rfl | (exfalso; ((try simp only [inB_t, inB_f, i_lt, i_le, i_eq, ne_eq, Bool.not_eq_true, Bool.not_eq_false, hpB, decide_eq_true_eq, decide_eq_false_iff_not, li_0, li_1, li_2, li_3, li_4, li_5, li_6, li_7, li_8, li_9, li_10, li_20, li_40, li_99, li_100, li_255, li_899, li_999, li_m1, li_m2, li_m3, li_m4, li_m11, li_m12, li_m13, li_m14, li_m100] at h1 h10 h19 ⊢) <;> omega))))))
    · refine x_iconst (pc := 13) (v := 1) C dX12_over_13 rfl ?_
      refine x_goto (pc := 14) C 27 dX12_over_14 (by decide) ?_
      exact x_iret (pc := 27) C X dX12_over_27 (rI_i (Eq.symm (by
            unfold ovF
            repeat (first | with_reducible rfl | (refine (if_pos ?_).trans ?_; ((try simp only [inB_t, inB_f, i_lt, i_le, i_eq, ne_eq, Bool.not_eq_true, Bool.not_eq_false, hpB, decide_eq_true_eq, decide_eq_false_iff_not, li_0, li_1, li_2, li_3, li_4, li_5, li_6, li_7, li_8, li_9, li_10, li_20, li_40, li_99, li_100, li_255, li_899, li_999, li_m1, li_m2, li_m3, li_m4, li_m11, li_m12, li_m13, li_m14, li_m100] at h1 h10 ⊢) <;> omega)) | (refine (if_neg ?_).trans ?_; ((try simp only [inB_t, inB_f, i_lt, i_le, i_eq, ne_eq, Bool.not_eq_true, Bool.not_eq_false, hpB, decide_eq_true_eq, decide_eq_false_iff_not, li_0, li_1, li_2, li_3, li_4, li_5, li_6, li_7, li_8, li_9, li_10, li_20, li_40, li_99, li_100, li_255, li_899, li_999, li_m1, li_m2, li_m3, li_m4, li_m11, li_m12, li_m13, li_m14, li_m100] at h1 h10 ⊢) <;> omega)) | fail)
            all_goals (first | with_reducible rfl | (exfalso; ((try simp only [inB_t, inB_f, i_lt, i_le, i_eq, ne_eq, Bool.not_eq_true, Bool.not_eq_false, hpB, decide_eq_true_eq, decide_eq_false_iff_not, li_0, li_1, li_2, li_3, li_4, li_5, li_6, li_7, li_8, li_9, li_10, li_20, li_40, li_99, li_100, li_255, li_899, li_999, li_m1, li_m2, li_m3, li_m4, li_m11, li_m12, li_m13, li_m14, li_m100] at h1 h10 ⊢) <;> omega))))))
  · refine x_iconst (pc := 4) (v := (-1)) C dX12_over_4 rfl ?_
    refine x_goto (pc := 5) C 27 dX12_over_5 (by decide) ?_
    exact x_iret (pc := 27) C X dX12_over_27 (rI_i (Eq.symm (by
          unfold ovF
          repeat (first | with_reducible rfl | (refine (if_pos ?_).trans ?_; ((try simp only [inB_t, inB_f, i_lt, i_le, i_eq, ne_eq, Bool.not_eq_true, Bool.not_eq_false, hpB, decide_eq_true_eq, decide_eq_false_iff_not, li_0, li_1, li_2, li_3, li_4, li_5, li_6, li_7, li_8, li_9, li_10, li_20, li_40, li_99, li_100, li_255, li_899, li_999, li_m1, li_m2, li_m3, li_m4, li_m11, li_m12, li_m13, li_m14, li_m100] at h1 ⊢) <;> omega)) | (refine (if_neg ?_).trans ?_; ((try simp only [inB_t, inB_f, i_lt, i_le, i_eq, ne_eq, Bool.not_eq_true, Bool.not_eq_false, hpB, decide_eq_true_eq, decide_eq_false_iff_not, li_0, li_1, li_2, li_3, li_4, li_5, li_6, li_7, li_8, li_9, li_10, li_20, li_40, li_99, li_100, li_255, li_899, li_999, li_m1, li_m2, li_m3, li_m4, li_m11, li_m12, li_m13, li_m14, li_m100] at h1 ⊢) <;> omega)) | fail)
          all_goals (first | with_reducible rfl | (exfalso; ((try simp only [inB_t, inB_f, i_lt, i_le, i_eq, ne_eq, Bool.not_eq_true, Bool.not_eq_false, hpB, decide_eq_true_eq, decide_eq_false_iff_not, li_0, li_1, li_2, li_3, li_4, li_5, li_6, li_7, li_8, li_9, li_10, li_20, li_40, li_99, li_100, li_255, li_899, li_999, li_m1, li_m2, li_m3, li_m4, li_m11, li_m12, li_m13, li_m14, li_m100] at h1 ⊢) <;> omega))))))

set_option maxRecDepth 100000 in
set_option maxHeartbeats 800000 in
theorem c_X12_taken (t : CT) {σ : SV} {M : MM} (h : RR σ M) (hg : M 0 28 = 0) (x1 x2 : Int32)  : XMet (wR t) yX12_taken cX12_taken 4 (some .int) 3 [.ref (t.1 0), .int x1, .int x2] M (oQ (σ, a_taken σ x1 x2)) := by
  refine x_met RX12 (by decide) rfl (Nat.le_of_ble_eq_true rfl) (fun κ C X E => ?_)
  refine x_L (L' := [(0, .ref (t.1 0)), (1, .int x1), (2, .int x2)]) rfl ?_
  have hn6 := rr_n6 h
  have hN6 := h.1.1
  have hq := rr_q h
  have hB := h.1.2.1
  refine x_iload_n (pc := 0) C 2 dX12_taken_0 rfl ?_
  refine x_i2l (pc := 1) C dX12_taken_1 ?_
  refine x_lconst (pc := 2) (v := 0) C dX12_taken_2 rfl ?_
  refine x_ldc2 (pc := 3) (v := 5) C q19_20 dX12_taken_3 ?_
  refine x_callS (pc := 6) C E [.long (Int32.toInt64 x2), .long 0, .long 5] [] (c_X12_inB t _ x2 (n := 6) (by decide) (by decide)) m_X12_in q13_6 rfl (by decide) (Nat.le_of_ble_eq_true rfl) dX12_taken_6 rfl (k_I ?_)
  refine x_ifb_ne (pc := 9) C 15 dX12_taken_9 (by decide) (fun h9 => ?_) (fun h9 => ?_)
  · refine x_aload_n (pc := 15) C 0 dX12_taken_15 rfl ?_
    refine x_iload_n (pc := 16) C 1 dX12_taken_16 rfl ?_
    refine x_callV (pc := 17) C E [.int x1] [] ( c_X12_isDisk t h _) m_X12_isDisk q13_9 xo_M rfl (by decide) (Nat.le_of_ble_eq_true rfl) dX12_taken_17 rfl (k_I ?_)
    refine x_ifb_ne (pc := 20) C 26 dX12_taken_20 (by decide) (fun h20 => ?_) (fun h20 => ?_)
    · obtain ⟨d, hd, ed⟩ := inB_of h20 (by omega)
      have htd := nI_toInt (n := d) (by omega)
      have hod := oN_nI (n := d) (by omega)
      subst ed
      have hk6 := rr_k6 h hd
      have hk9 : x2.toInt = 0 ∨ x2.toInt = 1 ∨ x2.toInt = 2 ∨ x2.toInt = 3 ∨ x2.toInt = 4 ∨ x2.toInt = 5 := (by ((try simp only [inB_t, inB_f, i_lt, i_le, i_eq, ne_eq, Bool.not_eq_true, Bool.not_eq_false, hpB, decide_eq_true_eq, decide_eq_false_iff_not, li_0, li_1, li_2, li_3, li_4, li_5, li_6, li_7, li_8, li_9, li_10, li_20, li_40, li_99, li_100, li_255, li_899, li_999, li_m1, li_m2, li_m3, li_m4, li_m11, li_m12, li_m13, li_m14, li_m100] at h9 h20 htd ⊢) <;> omega))
      rcases hk9 with hk9 | hk9 | hk9 | hk9 | hk9 | hk9
      · obtain rfl : x2 = 0 := i_eq.mpr hk9
        refine x_aload_n (pc := 26) C 0 dX12_taken_26 rfl ?_
        refine g_M_kinds (pc := 27) C E q11_15 dX12_taken_27 ?_
        refine x_iload_n (pc := 30) C 1 dX12_taken_30 rfl ?_
        refine l_Rkinds (pc := 31) C E (by omega) dX12_taken_31 ?_
        refine x_eq (show M 4 d = nI (vK (sV (σ)) d) from (rr_kd h (by omega))) ?_
        rcases (by omega : vK (sV σ) d = 0 ∨ vK (sV σ) d = 1 ∨ vK (sV σ) d = 2 ∨ vK (sV σ) d = 3 ∨ vK (sV σ) d = 4 ∨ vK (sV σ) d = 5) with hk | hk | hk | hk | hk | hk
        · refine x_eq (show nI (vK (sV σ) d) = nI 0 from by rw [hk]) ?_
          refine x_istore_n (pc := 32) (L' := [(3, .int (nI 0)), (0, .ref (t.1 0)), (1, .int (nI d)), (2, .int 0)]) C dX12_taken_32 (by decide) rfl ?_
          refine x_iload_n (pc := 33) C 0 dX12_taken_33 rfl ?_
          refine x_iconst (pc := 34) (v := (-1)) C dX12_taken_34 rfl ?_
          refine x_icmp_eq_f (pc := 35) C 51 dX12_taken_35 (by decide) (by decide) ?_
          refine x_iload_n (pc := 38) C 0 dX12_taken_38 rfl ?_
          refine x_iload_n (pc := 39) C 3 dX12_taken_39 rfl ?_
          refine x_icmp_eq_t (pc := 40) C 51 dX12_taken_40 (by decide) (by decide) ?_
          refine x_iload_n (pc := 51) C 0 dX12_taken_51 rfl ?_
          refine x_iload_n (pc := 52) C 3 dX12_taken_52 rfl ?_
          refine x_icmp_ne_f (pc := 53) C 67 dX12_taken_53 (by decide) (by decide) ?_
          refine x_aload_n (pc := 56) C 1 dX12_taken_56 rfl ?_
          refine g_M_rows (pc := 57) C E q11_16 dX12_taken_57 ?_
          refine x_iconst (pc := 60) (v := (nI 2)) C dX12_taken_60 (by decide) ?_
          refine x_iload_n (pc := 61) C 2 dX12_taken_61 rfl ?_
          refine x_imul (pc := 62) C dX12_taken_62 ?_
          refine x_eq (show (nI 2) * (nI d) = nI (2 * d) from pk_mul _ _) ?_
          refine l_Rrows (pc := 63) C E (by omega) dX12_taken_63 ?_
          refine x_eq (show M 5 (2 * d) = vU (sV (σ)) d from (rr_num h (by omega))) ?_
          refine x_goto (pc := 64) C 69 dX12_taken_64 (by decide) ?_
          exact x_iret (pc := 69) C X dX12_taken_69 (faq (by
                unfold a_taken
                simp only [hod, hk]
                refine (if_neg (by decide)).trans ?_
                refine (if_neg (by rw [h20]; decide)).trans ?_
                exact if_pos (by decide)) h hg)
        · refine x_eq (show nI (vK (sV σ) d) = nI 1 from by rw [hk]) ?_
          refine x_istore_n (pc := 32) (L' := [(3, .int (nI 1)), (0, .ref (t.1 0)), (1, .int (nI d)), (2, .int 0)]) C dX12_taken_32 (by decide) rfl ?_
          refine x_iload_n (pc := 33) C 0 dX12_taken_33 rfl ?_
          refine x_iconst (pc := 34) (v := (-1)) C dX12_taken_34 rfl ?_
          refine x_icmp_eq_f (pc := 35) C 51 dX12_taken_35 (by decide) (by decide) ?_
          refine x_iload_n (pc := 38) C 0 dX12_taken_38 rfl ?_
          refine x_iload_n (pc := 39) C 3 dX12_taken_39 rfl ?_
          refine x_icmp_eq_f (pc := 40) C 51 dX12_taken_40 (by decide) (by decide) ?_
          refine x_iload_n (pc := 43) C 0 dX12_taken_43 rfl ?_
          refine x_callS (pc := 44) C E [.int (nI 1)] [] (c_X12_over t _ (nI 1)) m_X12_over q48_18 rfl (by decide) (Nat.le_of_ble_eq_true rfl) dX12_taken_44 rfl (k_I ?_)
          refine x_eq (show ovF (nI 1) = 0 from by decide) ?_
          refine x_istore_n (pc := 47) (L' := [(3, .int 0), (0, .ref (t.1 0)), (1, .int (nI d)), (2, .int 0)]) C dX12_taken_47 (by decide) rfl ?_
          refine x_goto (pc := 48) C 33 dX12_taken_48 (by decide) ?_
          refine x_iload_n (pc := 33) C 0 dX12_taken_33 rfl ?_
          refine x_iconst (pc := 34) (v := (-1)) C dX12_taken_34 rfl ?_
          refine x_icmp_eq_f (pc := 35) C 51 dX12_taken_35 (by decide) (by decide) ?_
          refine x_iload_n (pc := 38) C 0 dX12_taken_38 rfl ?_
          refine x_iload_n (pc := 39) C 3 dX12_taken_39 rfl ?_
          refine x_icmp_eq_t (pc := 40) C 51 dX12_taken_40 (by decide) (by decide) ?_
          refine x_iload_n (pc := 51) C 0 dX12_taken_51 rfl ?_
          refine x_iload_n (pc := 52) C 3 dX12_taken_52 rfl ?_
          refine x_icmp_ne_f (pc := 53) C 67 dX12_taken_53 (by decide) (by decide) ?_
          refine x_aload_n (pc := 56) C 1 dX12_taken_56 rfl ?_
          refine g_M_rows (pc := 57) C E q11_16 dX12_taken_57 ?_
          refine x_iconst (pc := 60) (v := (nI 2)) C dX12_taken_60 (by decide) ?_
          refine x_iload_n (pc := 61) C 2 dX12_taken_61 rfl ?_
          refine x_imul (pc := 62) C dX12_taken_62 ?_
          refine x_eq (show (nI 2) * (nI d) = nI (2 * d) from pk_mul _ _) ?_
          refine l_Rrows (pc := 63) C E (by omega) dX12_taken_63 ?_
          refine x_eq (show M 5 (2 * d) = vU (sV (σ)) d from (rr_num h (by omega))) ?_
          refine x_goto (pc := 64) C 69 dX12_taken_64 (by decide) ?_
          exact x_iret (pc := 69) C X dX12_taken_69 (faq (by
                unfold a_taken
                simp only [hod, hk]
                refine (if_neg (by decide)).trans ?_
                refine (if_neg (by rw [h20]; decide)).trans ?_
                exact if_pos (by decide)) h hg)
        · refine x_eq (show nI (vK (sV σ) d) = nI 2 from by rw [hk]) ?_
          refine x_istore_n (pc := 32) (L' := [(3, .int (nI 2)), (0, .ref (t.1 0)), (1, .int (nI d)), (2, .int 0)]) C dX12_taken_32 (by decide) rfl ?_
          refine x_iload_n (pc := 33) C 0 dX12_taken_33 rfl ?_
          refine x_iconst (pc := 34) (v := (-1)) C dX12_taken_34 rfl ?_
          refine x_icmp_eq_f (pc := 35) C 51 dX12_taken_35 (by decide) (by decide) ?_
          refine x_iload_n (pc := 38) C 0 dX12_taken_38 rfl ?_
          refine x_iload_n (pc := 39) C 3 dX12_taken_39 rfl ?_
          refine x_icmp_eq_f (pc := 40) C 51 dX12_taken_40 (by decide) (by decide) ?_
          refine x_iload_n (pc := 43) C 0 dX12_taken_43 rfl ?_
          refine x_callS (pc := 44) C E [.int (nI 2)] [] (c_X12_over t _ (nI 2)) m_X12_over q48_18 rfl (by decide) (Nat.le_of_ble_eq_true rfl) dX12_taken_44 rfl (k_I ?_)
          refine x_eq (show ovF (nI 2) = 0 from by decide) ?_
          refine x_istore_n (pc := 47) (L' := [(3, .int 0), (0, .ref (t.1 0)), (1, .int (nI d)), (2, .int 0)]) C dX12_taken_47 (by decide) rfl ?_
          refine x_goto (pc := 48) C 33 dX12_taken_48 (by decide) ?_
          refine x_iload_n (pc := 33) C 0 dX12_taken_33 rfl ?_
          refine x_iconst (pc := 34) (v := (-1)) C dX12_taken_34 rfl ?_
          refine x_icmp_eq_f (pc := 35) C 51 dX12_taken_35 (by decide) (by decide) ?_
          refine x_iload_n (pc := 38) C 0 dX12_taken_38 rfl ?_
          refine x_iload_n (pc := 39) C 3 dX12_taken_39 rfl ?_
          refine x_icmp_eq_t (pc := 40) C 51 dX12_taken_40 (by decide) (by decide) ?_
          refine x_iload_n (pc := 51) C 0 dX12_taken_51 rfl ?_
          refine x_iload_n (pc := 52) C 3 dX12_taken_52 rfl ?_
          refine x_icmp_ne_f (pc := 53) C 67 dX12_taken_53 (by decide) (by decide) ?_
          refine x_aload_n (pc := 56) C 1 dX12_taken_56 rfl ?_
          refine g_M_rows (pc := 57) C E q11_16 dX12_taken_57 ?_
          refine x_iconst (pc := 60) (v := (nI 2)) C dX12_taken_60 (by decide) ?_
          refine x_iload_n (pc := 61) C 2 dX12_taken_61 rfl ?_
          refine x_imul (pc := 62) C dX12_taken_62 ?_
          refine x_eq (show (nI 2) * (nI d) = nI (2 * d) from pk_mul _ _) ?_
          refine l_Rrows (pc := 63) C E (by omega) dX12_taken_63 ?_
          refine x_eq (show M 5 (2 * d) = vU (sV (σ)) d from (rr_num h (by omega))) ?_
          refine x_goto (pc := 64) C 69 dX12_taken_64 (by decide) ?_
          exact x_iret (pc := 69) C X dX12_taken_69 (faq (by
                unfold a_taken
                simp only [hod, hk]
                refine (if_neg (by decide)).trans ?_
                refine (if_neg (by rw [h20]; decide)).trans ?_
                exact if_pos (by decide)) h hg)
        · refine x_eq (show nI (vK (sV σ) d) = nI 3 from by rw [hk]) ?_
          refine x_istore_n (pc := 32) (L' := [(3, .int (nI 3)), (0, .ref (t.1 0)), (1, .int (nI d)), (2, .int 0)]) C dX12_taken_32 (by decide) rfl ?_
          refine x_iload_n (pc := 33) C 0 dX12_taken_33 rfl ?_
          refine x_iconst (pc := 34) (v := (-1)) C dX12_taken_34 rfl ?_
          refine x_icmp_eq_f (pc := 35) C 51 dX12_taken_35 (by decide) (by decide) ?_
          refine x_iload_n (pc := 38) C 0 dX12_taken_38 rfl ?_
          refine x_iload_n (pc := 39) C 3 dX12_taken_39 rfl ?_
          refine x_icmp_eq_f (pc := 40) C 51 dX12_taken_40 (by decide) (by decide) ?_
          refine x_iload_n (pc := 43) C 0 dX12_taken_43 rfl ?_
          refine x_callS (pc := 44) C E [.int (nI 3)] [] (c_X12_over t _ (nI 3)) m_X12_over q48_18 rfl (by decide) (Nat.le_of_ble_eq_true rfl) dX12_taken_44 rfl (k_I ?_)
          refine x_eq (show ovF (nI 3) = 1 from by decide) ?_
          refine x_istore_n (pc := 47) (L' := [(3, .int 1), (0, .ref (t.1 0)), (1, .int (nI d)), (2, .int 0)]) C dX12_taken_47 (by decide) rfl ?_
          refine x_goto (pc := 48) C 33 dX12_taken_48 (by decide) ?_
          refine x_iload_n (pc := 33) C 0 dX12_taken_33 rfl ?_
          refine x_iconst (pc := 34) (v := (-1)) C dX12_taken_34 rfl ?_
          refine x_icmp_eq_f (pc := 35) C 51 dX12_taken_35 (by decide) (by decide) ?_
          refine x_iload_n (pc := 38) C 0 dX12_taken_38 rfl ?_
          refine x_iload_n (pc := 39) C 3 dX12_taken_39 rfl ?_
          refine x_icmp_eq_f (pc := 40) C 51 dX12_taken_40 (by decide) (by decide) ?_
          refine x_iload_n (pc := 43) C 0 dX12_taken_43 rfl ?_
          refine x_callS (pc := 44) C E [.int 1] [] (c_X12_over t _ 1) m_X12_over q48_18 rfl (by decide) (Nat.le_of_ble_eq_true rfl) dX12_taken_44 rfl (k_I ?_)
          refine x_eq (show ovF 1 = 0 from by decide) ?_
          refine x_istore_n (pc := 47) (L' := [(3, .int 0), (0, .ref (t.1 0)), (1, .int (nI d)), (2, .int 0)]) C dX12_taken_47 (by decide) rfl ?_
          refine x_goto (pc := 48) C 33 dX12_taken_48 (by decide) ?_
          refine x_iload_n (pc := 33) C 0 dX12_taken_33 rfl ?_
          refine x_iconst (pc := 34) (v := (-1)) C dX12_taken_34 rfl ?_
          refine x_icmp_eq_f (pc := 35) C 51 dX12_taken_35 (by decide) (by decide) ?_
          refine x_iload_n (pc := 38) C 0 dX12_taken_38 rfl ?_
          refine x_iload_n (pc := 39) C 3 dX12_taken_39 rfl ?_
          refine x_icmp_eq_t (pc := 40) C 51 dX12_taken_40 (by decide) (by decide) ?_
          refine x_iload_n (pc := 51) C 0 dX12_taken_51 rfl ?_
          refine x_iload_n (pc := 52) C 3 dX12_taken_52 rfl ?_
          refine x_icmp_ne_f (pc := 53) C 67 dX12_taken_53 (by decide) (by decide) ?_
          refine x_aload_n (pc := 56) C 1 dX12_taken_56 rfl ?_
          refine g_M_rows (pc := 57) C E q11_16 dX12_taken_57 ?_
          refine x_iconst (pc := 60) (v := (nI 2)) C dX12_taken_60 (by decide) ?_
          refine x_iload_n (pc := 61) C 2 dX12_taken_61 rfl ?_
          refine x_imul (pc := 62) C dX12_taken_62 ?_
          refine x_eq (show (nI 2) * (nI d) = nI (2 * d) from pk_mul _ _) ?_
          refine l_Rrows (pc := 63) C E (by omega) dX12_taken_63 ?_
          refine x_eq (show M 5 (2 * d) = vU (sV (σ)) d from (rr_num h (by omega))) ?_
          refine x_goto (pc := 64) C 69 dX12_taken_64 (by decide) ?_
          exact x_iret (pc := 69) C X dX12_taken_69 (faq (by
                unfold a_taken
                simp only [hod, hk]
                refine (if_neg (by decide)).trans ?_
                refine (if_neg (by rw [h20]; decide)).trans ?_
                exact if_pos (by decide)) h hg)
        · refine x_eq (show nI (vK (sV σ) d) = nI 4 from by rw [hk]) ?_
          refine x_istore_n (pc := 32) (L' := [(3, .int (nI 4)), (0, .ref (t.1 0)), (1, .int (nI d)), (2, .int 0)]) C dX12_taken_32 (by decide) rfl ?_
          refine x_iload_n (pc := 33) C 0 dX12_taken_33 rfl ?_
          refine x_iconst (pc := 34) (v := (-1)) C dX12_taken_34 rfl ?_
          refine x_icmp_eq_f (pc := 35) C 51 dX12_taken_35 (by decide) (by decide) ?_
          refine x_iload_n (pc := 38) C 0 dX12_taken_38 rfl ?_
          refine x_iload_n (pc := 39) C 3 dX12_taken_39 rfl ?_
          refine x_icmp_eq_f (pc := 40) C 51 dX12_taken_40 (by decide) (by decide) ?_
          refine x_iload_n (pc := 43) C 0 dX12_taken_43 rfl ?_
          refine x_callS (pc := 44) C E [.int (nI 4)] [] (c_X12_over t _ (nI 4)) m_X12_over q48_18 rfl (by decide) (Nat.le_of_ble_eq_true rfl) dX12_taken_44 rfl (k_I ?_)
          refine x_eq (show ovF (nI 4) = 2 from by decide) ?_
          refine x_istore_n (pc := 47) (L' := [(3, .int 2), (0, .ref (t.1 0)), (1, .int (nI d)), (2, .int 0)]) C dX12_taken_47 (by decide) rfl ?_
          refine x_goto (pc := 48) C 33 dX12_taken_48 (by decide) ?_
          refine x_iload_n (pc := 33) C 0 dX12_taken_33 rfl ?_
          refine x_iconst (pc := 34) (v := (-1)) C dX12_taken_34 rfl ?_
          refine x_icmp_eq_f (pc := 35) C 51 dX12_taken_35 (by decide) (by decide) ?_
          refine x_iload_n (pc := 38) C 0 dX12_taken_38 rfl ?_
          refine x_iload_n (pc := 39) C 3 dX12_taken_39 rfl ?_
          refine x_icmp_eq_f (pc := 40) C 51 dX12_taken_40 (by decide) (by decide) ?_
          refine x_iload_n (pc := 43) C 0 dX12_taken_43 rfl ?_
          refine x_callS (pc := 44) C E [.int 2] [] (c_X12_over t _ 2) m_X12_over q48_18 rfl (by decide) (Nat.le_of_ble_eq_true rfl) dX12_taken_44 rfl (k_I ?_)
          refine x_eq (show ovF 2 = 0 from by decide) ?_
          refine x_istore_n (pc := 47) (L' := [(3, .int 0), (0, .ref (t.1 0)), (1, .int (nI d)), (2, .int 0)]) C dX12_taken_47 (by decide) rfl ?_
          refine x_goto (pc := 48) C 33 dX12_taken_48 (by decide) ?_
          refine x_iload_n (pc := 33) C 0 dX12_taken_33 rfl ?_
          refine x_iconst (pc := 34) (v := (-1)) C dX12_taken_34 rfl ?_
          refine x_icmp_eq_f (pc := 35) C 51 dX12_taken_35 (by decide) (by decide) ?_
          refine x_iload_n (pc := 38) C 0 dX12_taken_38 rfl ?_
          refine x_iload_n (pc := 39) C 3 dX12_taken_39 rfl ?_
          refine x_icmp_eq_t (pc := 40) C 51 dX12_taken_40 (by decide) (by decide) ?_
          refine x_iload_n (pc := 51) C 0 dX12_taken_51 rfl ?_
          refine x_iload_n (pc := 52) C 3 dX12_taken_52 rfl ?_
          refine x_icmp_ne_f (pc := 53) C 67 dX12_taken_53 (by decide) (by decide) ?_
          refine x_aload_n (pc := 56) C 1 dX12_taken_56 rfl ?_
          refine g_M_rows (pc := 57) C E q11_16 dX12_taken_57 ?_
          refine x_iconst (pc := 60) (v := (nI 2)) C dX12_taken_60 (by decide) ?_
          refine x_iload_n (pc := 61) C 2 dX12_taken_61 rfl ?_
          refine x_imul (pc := 62) C dX12_taken_62 ?_
          refine x_eq (show (nI 2) * (nI d) = nI (2 * d) from pk_mul _ _) ?_
          refine l_Rrows (pc := 63) C E (by omega) dX12_taken_63 ?_
          refine x_eq (show M 5 (2 * d) = vU (sV (σ)) d from (rr_num h (by omega))) ?_
          refine x_goto (pc := 64) C 69 dX12_taken_64 (by decide) ?_
          exact x_iret (pc := 69) C X dX12_taken_69 (faq (by
                unfold a_taken
                simp only [hod, hk]
                refine (if_neg (by decide)).trans ?_
                refine (if_neg (by rw [h20]; decide)).trans ?_
                exact if_pos (by decide)) h hg)
        · refine x_eq (show nI (vK (sV σ) d) = nI 5 from by rw [hk]) ?_
          refine x_istore_n (pc := 32) (L' := [(3, .int (nI 5)), (0, .ref (t.1 0)), (1, .int (nI d)), (2, .int 0)]) C dX12_taken_32 (by decide) rfl ?_
          refine x_iload_n (pc := 33) C 0 dX12_taken_33 rfl ?_
          refine x_iconst (pc := 34) (v := (-1)) C dX12_taken_34 rfl ?_
          refine x_icmp_eq_f (pc := 35) C 51 dX12_taken_35 (by decide) (by decide) ?_
          refine x_iload_n (pc := 38) C 0 dX12_taken_38 rfl ?_
          refine x_iload_n (pc := 39) C 3 dX12_taken_39 rfl ?_
          refine x_icmp_eq_f (pc := 40) C 51 dX12_taken_40 (by decide) (by decide) ?_
          refine x_iload_n (pc := 43) C 0 dX12_taken_43 rfl ?_
          refine x_callS (pc := 44) C E [.int (nI 5)] [] (c_X12_over t _ (nI 5)) m_X12_over q48_18 rfl (by decide) (Nat.le_of_ble_eq_true rfl) dX12_taken_44 rfl (k_I ?_)
          refine x_eq (show ovF (nI 5) = 0 from by decide) ?_
          refine x_istore_n (pc := 47) (L' := [(3, .int 0), (0, .ref (t.1 0)), (1, .int (nI d)), (2, .int 0)]) C dX12_taken_47 (by decide) rfl ?_
          refine x_goto (pc := 48) C 33 dX12_taken_48 (by decide) ?_
          refine x_iload_n (pc := 33) C 0 dX12_taken_33 rfl ?_
          refine x_iconst (pc := 34) (v := (-1)) C dX12_taken_34 rfl ?_
          refine x_icmp_eq_f (pc := 35) C 51 dX12_taken_35 (by decide) (by decide) ?_
          refine x_iload_n (pc := 38) C 0 dX12_taken_38 rfl ?_
          refine x_iload_n (pc := 39) C 3 dX12_taken_39 rfl ?_
          refine x_icmp_eq_t (pc := 40) C 51 dX12_taken_40 (by decide) (by decide) ?_
          refine x_iload_n (pc := 51) C 0 dX12_taken_51 rfl ?_
          refine x_iload_n (pc := 52) C 3 dX12_taken_52 rfl ?_
          refine x_icmp_ne_f (pc := 53) C 67 dX12_taken_53 (by decide) (by decide) ?_
          refine x_aload_n (pc := 56) C 1 dX12_taken_56 rfl ?_
          refine g_M_rows (pc := 57) C E q11_16 dX12_taken_57 ?_
          refine x_iconst (pc := 60) (v := (nI 2)) C dX12_taken_60 (by decide) ?_
          refine x_iload_n (pc := 61) C 2 dX12_taken_61 rfl ?_
          refine x_imul (pc := 62) C dX12_taken_62 ?_
          refine x_eq (show (nI 2) * (nI d) = nI (2 * d) from pk_mul _ _) ?_
          refine l_Rrows (pc := 63) C E (by omega) dX12_taken_63 ?_
          refine x_eq (show M 5 (2 * d) = vU (sV (σ)) d from (rr_num h (by omega))) ?_
          refine x_goto (pc := 64) C 69 dX12_taken_64 (by decide) ?_
          exact x_iret (pc := 69) C X dX12_taken_69 (faq (by
                unfold a_taken
                simp only [hod, hk]
                refine (if_neg (by decide)).trans ?_
                refine (if_neg (by rw [h20]; decide)).trans ?_
                exact if_pos (by decide)) h hg)
        
      · obtain rfl : x2 = 1 := i_eq.mpr hk9
        refine x_aload_n (pc := 26) C 0 dX12_taken_26 rfl ?_
        refine g_M_kinds (pc := 27) C E q11_15 dX12_taken_27 ?_
        refine x_iload_n (pc := 30) C 1 dX12_taken_30 rfl ?_
        refine l_Rkinds (pc := 31) C E (by omega) dX12_taken_31 ?_
        refine x_eq (show M 4 d = nI (vK (sV (σ)) d) from (rr_kd h (by omega))) ?_
        rcases (by omega : vK (sV σ) d = 0 ∨ vK (sV σ) d = 1 ∨ vK (sV σ) d = 2 ∨ vK (sV σ) d = 3 ∨ vK (sV σ) d = 4 ∨ vK (sV σ) d = 5) with hk | hk | hk | hk | hk | hk
        · refine x_eq (show nI (vK (sV σ) d) = nI 0 from by rw [hk]) ?_
          refine x_istore_n (pc := 32) (L' := [(3, .int (nI 0)), (0, .ref (t.1 0)), (1, .int (nI d)), (2, .int 1)]) C dX12_taken_32 (by decide) rfl ?_
          refine x_iload_n (pc := 33) C 0 dX12_taken_33 rfl ?_
          refine x_iconst (pc := 34) (v := (-1)) C dX12_taken_34 rfl ?_
          refine x_icmp_eq_f (pc := 35) C 51 dX12_taken_35 (by decide) (by decide) ?_
          refine x_iload_n (pc := 38) C 0 dX12_taken_38 rfl ?_
          refine x_iload_n (pc := 39) C 3 dX12_taken_39 rfl ?_
          refine x_icmp_eq_f (pc := 40) C 51 dX12_taken_40 (by decide) (by decide) ?_
          refine x_iload_n (pc := 43) C 0 dX12_taken_43 rfl ?_
          refine x_callS (pc := 44) C E [.int (nI 0)] [] (c_X12_over t _ (nI 0)) m_X12_over q48_18 rfl (by decide) (Nat.le_of_ble_eq_true rfl) dX12_taken_44 rfl (k_I ?_)
          refine x_eq (show ovF (nI 0) = -1 from by decide) ?_
          refine x_istore_n (pc := 47) (L' := [(3, .int (-1)), (0, .ref (t.1 0)), (1, .int (nI d)), (2, .int 1)]) C dX12_taken_47 (by decide) rfl ?_
          refine x_goto (pc := 48) C 33 dX12_taken_48 (by decide) ?_
          refine x_iload_n (pc := 33) C 0 dX12_taken_33 rfl ?_
          refine x_iconst (pc := 34) (v := (-1)) C dX12_taken_34 rfl ?_
          refine x_icmp_eq_t (pc := 35) C 51 dX12_taken_35 (by decide) (by decide) ?_
          refine x_iload_n (pc := 51) C 0 dX12_taken_51 rfl ?_
          refine x_iload_n (pc := 52) C 3 dX12_taken_52 rfl ?_
          refine x_icmp_ne_t (pc := 53) C 67 dX12_taken_53 (by decide) (by decide) ?_
          refine x_bipush (pc := 67) (v := (-13)) C dX12_taken_67 rfl ?_
          exact x_iret (pc := 69) C X dX12_taken_69 (faq (by
                unfold a_taken
                simp only [hod, hk]
                refine (if_neg (by decide)).trans ?_
                refine (if_neg (by rw [h20]; decide)).trans ?_
                exact if_neg (by decide)) h hg)
        · refine x_eq (show nI (vK (sV σ) d) = nI 1 from by rw [hk]) ?_
          refine x_istore_n (pc := 32) (L' := [(3, .int (nI 1)), (0, .ref (t.1 0)), (1, .int (nI d)), (2, .int 1)]) C dX12_taken_32 (by decide) rfl ?_
          refine x_iload_n (pc := 33) C 0 dX12_taken_33 rfl ?_
          refine x_iconst (pc := 34) (v := (-1)) C dX12_taken_34 rfl ?_
          refine x_icmp_eq_f (pc := 35) C 51 dX12_taken_35 (by decide) (by decide) ?_
          refine x_iload_n (pc := 38) C 0 dX12_taken_38 rfl ?_
          refine x_iload_n (pc := 39) C 3 dX12_taken_39 rfl ?_
          refine x_icmp_eq_t (pc := 40) C 51 dX12_taken_40 (by decide) (by decide) ?_
          refine x_iload_n (pc := 51) C 0 dX12_taken_51 rfl ?_
          refine x_iload_n (pc := 52) C 3 dX12_taken_52 rfl ?_
          refine x_icmp_ne_f (pc := 53) C 67 dX12_taken_53 (by decide) (by decide) ?_
          refine x_aload_n (pc := 56) C 1 dX12_taken_56 rfl ?_
          refine g_M_rows (pc := 57) C E q11_16 dX12_taken_57 ?_
          refine x_iconst (pc := 60) (v := (nI 2)) C dX12_taken_60 (by decide) ?_
          refine x_iload_n (pc := 61) C 2 dX12_taken_61 rfl ?_
          refine x_imul (pc := 62) C dX12_taken_62 ?_
          refine x_eq (show (nI 2) * (nI d) = nI (2 * d) from pk_mul _ _) ?_
          refine l_Rrows (pc := 63) C E (by omega) dX12_taken_63 ?_
          refine x_eq (show M 5 (2 * d) = vU (sV (σ)) d from (rr_num h (by omega))) ?_
          refine x_goto (pc := 64) C 69 dX12_taken_64 (by decide) ?_
          exact x_iret (pc := 69) C X dX12_taken_69 (faq (by
                unfold a_taken
                simp only [hod, hk]
                refine (if_neg (by decide)).trans ?_
                refine (if_neg (by rw [h20]; decide)).trans ?_
                exact if_pos (by decide)) h hg)
        · refine x_eq (show nI (vK (sV σ) d) = nI 2 from by rw [hk]) ?_
          refine x_istore_n (pc := 32) (L' := [(3, .int (nI 2)), (0, .ref (t.1 0)), (1, .int (nI d)), (2, .int 1)]) C dX12_taken_32 (by decide) rfl ?_
          refine x_iload_n (pc := 33) C 0 dX12_taken_33 rfl ?_
          refine x_iconst (pc := 34) (v := (-1)) C dX12_taken_34 rfl ?_
          refine x_icmp_eq_f (pc := 35) C 51 dX12_taken_35 (by decide) (by decide) ?_
          refine x_iload_n (pc := 38) C 0 dX12_taken_38 rfl ?_
          refine x_iload_n (pc := 39) C 3 dX12_taken_39 rfl ?_
          refine x_icmp_eq_f (pc := 40) C 51 dX12_taken_40 (by decide) (by decide) ?_
          refine x_iload_n (pc := 43) C 0 dX12_taken_43 rfl ?_
          refine x_callS (pc := 44) C E [.int (nI 2)] [] (c_X12_over t _ (nI 2)) m_X12_over q48_18 rfl (by decide) (Nat.le_of_ble_eq_true rfl) dX12_taken_44 rfl (k_I ?_)
          refine x_eq (show ovF (nI 2) = 0 from by decide) ?_
          refine x_istore_n (pc := 47) (L' := [(3, .int 0), (0, .ref (t.1 0)), (1, .int (nI d)), (2, .int 1)]) C dX12_taken_47 (by decide) rfl ?_
          refine x_goto (pc := 48) C 33 dX12_taken_48 (by decide) ?_
          refine x_iload_n (pc := 33) C 0 dX12_taken_33 rfl ?_
          refine x_iconst (pc := 34) (v := (-1)) C dX12_taken_34 rfl ?_
          refine x_icmp_eq_f (pc := 35) C 51 dX12_taken_35 (by decide) (by decide) ?_
          refine x_iload_n (pc := 38) C 0 dX12_taken_38 rfl ?_
          refine x_iload_n (pc := 39) C 3 dX12_taken_39 rfl ?_
          refine x_icmp_eq_f (pc := 40) C 51 dX12_taken_40 (by decide) (by decide) ?_
          refine x_iload_n (pc := 43) C 0 dX12_taken_43 rfl ?_
          refine x_callS (pc := 44) C E [.int 0] [] (c_X12_over t _ 0) m_X12_over q48_18 rfl (by decide) (Nat.le_of_ble_eq_true rfl) dX12_taken_44 rfl (k_I ?_)
          refine x_eq (show ovF 0 = -1 from by decide) ?_
          refine x_istore_n (pc := 47) (L' := [(3, .int (-1)), (0, .ref (t.1 0)), (1, .int (nI d)), (2, .int 1)]) C dX12_taken_47 (by decide) rfl ?_
          refine x_goto (pc := 48) C 33 dX12_taken_48 (by decide) ?_
          refine x_iload_n (pc := 33) C 0 dX12_taken_33 rfl ?_
          refine x_iconst (pc := 34) (v := (-1)) C dX12_taken_34 rfl ?_
          refine x_icmp_eq_t (pc := 35) C 51 dX12_taken_35 (by decide) (by decide) ?_
          refine x_iload_n (pc := 51) C 0 dX12_taken_51 rfl ?_
          refine x_iload_n (pc := 52) C 3 dX12_taken_52 rfl ?_
          refine x_icmp_ne_t (pc := 53) C 67 dX12_taken_53 (by decide) (by decide) ?_
          refine x_bipush (pc := 67) (v := (-13)) C dX12_taken_67 rfl ?_
          exact x_iret (pc := 69) C X dX12_taken_69 (faq (by
                unfold a_taken
                simp only [hod, hk]
                refine (if_neg (by decide)).trans ?_
                refine (if_neg (by rw [h20]; decide)).trans ?_
                exact if_neg (by decide)) h hg)
        · refine x_eq (show nI (vK (sV σ) d) = nI 3 from by rw [hk]) ?_
          refine x_istore_n (pc := 32) (L' := [(3, .int (nI 3)), (0, .ref (t.1 0)), (1, .int (nI d)), (2, .int 1)]) C dX12_taken_32 (by decide) rfl ?_
          refine x_iload_n (pc := 33) C 0 dX12_taken_33 rfl ?_
          refine x_iconst (pc := 34) (v := (-1)) C dX12_taken_34 rfl ?_
          refine x_icmp_eq_f (pc := 35) C 51 dX12_taken_35 (by decide) (by decide) ?_
          refine x_iload_n (pc := 38) C 0 dX12_taken_38 rfl ?_
          refine x_iload_n (pc := 39) C 3 dX12_taken_39 rfl ?_
          refine x_icmp_eq_f (pc := 40) C 51 dX12_taken_40 (by decide) (by decide) ?_
          refine x_iload_n (pc := 43) C 0 dX12_taken_43 rfl ?_
          refine x_callS (pc := 44) C E [.int (nI 3)] [] (c_X12_over t _ (nI 3)) m_X12_over q48_18 rfl (by decide) (Nat.le_of_ble_eq_true rfl) dX12_taken_44 rfl (k_I ?_)
          refine x_eq (show ovF (nI 3) = 1 from by decide) ?_
          refine x_istore_n (pc := 47) (L' := [(3, .int 1), (0, .ref (t.1 0)), (1, .int (nI d)), (2, .int 1)]) C dX12_taken_47 (by decide) rfl ?_
          refine x_goto (pc := 48) C 33 dX12_taken_48 (by decide) ?_
          refine x_iload_n (pc := 33) C 0 dX12_taken_33 rfl ?_
          refine x_iconst (pc := 34) (v := (-1)) C dX12_taken_34 rfl ?_
          refine x_icmp_eq_f (pc := 35) C 51 dX12_taken_35 (by decide) (by decide) ?_
          refine x_iload_n (pc := 38) C 0 dX12_taken_38 rfl ?_
          refine x_iload_n (pc := 39) C 3 dX12_taken_39 rfl ?_
          refine x_icmp_eq_t (pc := 40) C 51 dX12_taken_40 (by decide) (by decide) ?_
          refine x_iload_n (pc := 51) C 0 dX12_taken_51 rfl ?_
          refine x_iload_n (pc := 52) C 3 dX12_taken_52 rfl ?_
          refine x_icmp_ne_f (pc := 53) C 67 dX12_taken_53 (by decide) (by decide) ?_
          refine x_aload_n (pc := 56) C 1 dX12_taken_56 rfl ?_
          refine g_M_rows (pc := 57) C E q11_16 dX12_taken_57 ?_
          refine x_iconst (pc := 60) (v := (nI 2)) C dX12_taken_60 (by decide) ?_
          refine x_iload_n (pc := 61) C 2 dX12_taken_61 rfl ?_
          refine x_imul (pc := 62) C dX12_taken_62 ?_
          refine x_eq (show (nI 2) * (nI d) = nI (2 * d) from pk_mul _ _) ?_
          refine l_Rrows (pc := 63) C E (by omega) dX12_taken_63 ?_
          refine x_eq (show M 5 (2 * d) = vU (sV (σ)) d from (rr_num h (by omega))) ?_
          refine x_goto (pc := 64) C 69 dX12_taken_64 (by decide) ?_
          exact x_iret (pc := 69) C X dX12_taken_69 (faq (by
                unfold a_taken
                simp only [hod, hk]
                refine (if_neg (by decide)).trans ?_
                refine (if_neg (by rw [h20]; decide)).trans ?_
                exact if_pos (by decide)) h hg)
        · refine x_eq (show nI (vK (sV σ) d) = nI 4 from by rw [hk]) ?_
          refine x_istore_n (pc := 32) (L' := [(3, .int (nI 4)), (0, .ref (t.1 0)), (1, .int (nI d)), (2, .int 1)]) C dX12_taken_32 (by decide) rfl ?_
          refine x_iload_n (pc := 33) C 0 dX12_taken_33 rfl ?_
          refine x_iconst (pc := 34) (v := (-1)) C dX12_taken_34 rfl ?_
          refine x_icmp_eq_f (pc := 35) C 51 dX12_taken_35 (by decide) (by decide) ?_
          refine x_iload_n (pc := 38) C 0 dX12_taken_38 rfl ?_
          refine x_iload_n (pc := 39) C 3 dX12_taken_39 rfl ?_
          refine x_icmp_eq_f (pc := 40) C 51 dX12_taken_40 (by decide) (by decide) ?_
          refine x_iload_n (pc := 43) C 0 dX12_taken_43 rfl ?_
          refine x_callS (pc := 44) C E [.int (nI 4)] [] (c_X12_over t _ (nI 4)) m_X12_over q48_18 rfl (by decide) (Nat.le_of_ble_eq_true rfl) dX12_taken_44 rfl (k_I ?_)
          refine x_eq (show ovF (nI 4) = 2 from by decide) ?_
          refine x_istore_n (pc := 47) (L' := [(3, .int 2), (0, .ref (t.1 0)), (1, .int (nI d)), (2, .int 1)]) C dX12_taken_47 (by decide) rfl ?_
          refine x_goto (pc := 48) C 33 dX12_taken_48 (by decide) ?_
          refine x_iload_n (pc := 33) C 0 dX12_taken_33 rfl ?_
          refine x_iconst (pc := 34) (v := (-1)) C dX12_taken_34 rfl ?_
          refine x_icmp_eq_f (pc := 35) C 51 dX12_taken_35 (by decide) (by decide) ?_
          refine x_iload_n (pc := 38) C 0 dX12_taken_38 rfl ?_
          refine x_iload_n (pc := 39) C 3 dX12_taken_39 rfl ?_
          refine x_icmp_eq_f (pc := 40) C 51 dX12_taken_40 (by decide) (by decide) ?_
          refine x_iload_n (pc := 43) C 0 dX12_taken_43 rfl ?_
          refine x_callS (pc := 44) C E [.int 2] [] (c_X12_over t _ 2) m_X12_over q48_18 rfl (by decide) (Nat.le_of_ble_eq_true rfl) dX12_taken_44 rfl (k_I ?_)
          refine x_eq (show ovF 2 = 0 from by decide) ?_
          refine x_istore_n (pc := 47) (L' := [(3, .int 0), (0, .ref (t.1 0)), (1, .int (nI d)), (2, .int 1)]) C dX12_taken_47 (by decide) rfl ?_
          refine x_goto (pc := 48) C 33 dX12_taken_48 (by decide) ?_
          refine x_iload_n (pc := 33) C 0 dX12_taken_33 rfl ?_
          refine x_iconst (pc := 34) (v := (-1)) C dX12_taken_34 rfl ?_
          refine x_icmp_eq_f (pc := 35) C 51 dX12_taken_35 (by decide) (by decide) ?_
          refine x_iload_n (pc := 38) C 0 dX12_taken_38 rfl ?_
          refine x_iload_n (pc := 39) C 3 dX12_taken_39 rfl ?_
          refine x_icmp_eq_f (pc := 40) C 51 dX12_taken_40 (by decide) (by decide) ?_
          refine x_iload_n (pc := 43) C 0 dX12_taken_43 rfl ?_
          refine x_callS (pc := 44) C E [.int 0] [] (c_X12_over t _ 0) m_X12_over q48_18 rfl (by decide) (Nat.le_of_ble_eq_true rfl) dX12_taken_44 rfl (k_I ?_)
          refine x_eq (show ovF 0 = -1 from by decide) ?_
          refine x_istore_n (pc := 47) (L' := [(3, .int (-1)), (0, .ref (t.1 0)), (1, .int (nI d)), (2, .int 1)]) C dX12_taken_47 (by decide) rfl ?_
          refine x_goto (pc := 48) C 33 dX12_taken_48 (by decide) ?_
          refine x_iload_n (pc := 33) C 0 dX12_taken_33 rfl ?_
          refine x_iconst (pc := 34) (v := (-1)) C dX12_taken_34 rfl ?_
          refine x_icmp_eq_t (pc := 35) C 51 dX12_taken_35 (by decide) (by decide) ?_
          refine x_iload_n (pc := 51) C 0 dX12_taken_51 rfl ?_
          refine x_iload_n (pc := 52) C 3 dX12_taken_52 rfl ?_
          refine x_icmp_ne_t (pc := 53) C 67 dX12_taken_53 (by decide) (by decide) ?_
          refine x_bipush (pc := 67) (v := (-13)) C dX12_taken_67 rfl ?_
          exact x_iret (pc := 69) C X dX12_taken_69 (faq (by
                unfold a_taken
                simp only [hod, hk]
                refine (if_neg (by decide)).trans ?_
                refine (if_neg (by rw [h20]; decide)).trans ?_
                exact if_neg (by decide)) h hg)
        · refine x_eq (show nI (vK (sV σ) d) = nI 5 from by rw [hk]) ?_
          refine x_istore_n (pc := 32) (L' := [(3, .int (nI 5)), (0, .ref (t.1 0)), (1, .int (nI d)), (2, .int 1)]) C dX12_taken_32 (by decide) rfl ?_
          refine x_iload_n (pc := 33) C 0 dX12_taken_33 rfl ?_
          refine x_iconst (pc := 34) (v := (-1)) C dX12_taken_34 rfl ?_
          refine x_icmp_eq_f (pc := 35) C 51 dX12_taken_35 (by decide) (by decide) ?_
          refine x_iload_n (pc := 38) C 0 dX12_taken_38 rfl ?_
          refine x_iload_n (pc := 39) C 3 dX12_taken_39 rfl ?_
          refine x_icmp_eq_f (pc := 40) C 51 dX12_taken_40 (by decide) (by decide) ?_
          refine x_iload_n (pc := 43) C 0 dX12_taken_43 rfl ?_
          refine x_callS (pc := 44) C E [.int (nI 5)] [] (c_X12_over t _ (nI 5)) m_X12_over q48_18 rfl (by decide) (Nat.le_of_ble_eq_true rfl) dX12_taken_44 rfl (k_I ?_)
          refine x_eq (show ovF (nI 5) = 0 from by decide) ?_
          refine x_istore_n (pc := 47) (L' := [(3, .int 0), (0, .ref (t.1 0)), (1, .int (nI d)), (2, .int 1)]) C dX12_taken_47 (by decide) rfl ?_
          refine x_goto (pc := 48) C 33 dX12_taken_48 (by decide) ?_
          refine x_iload_n (pc := 33) C 0 dX12_taken_33 rfl ?_
          refine x_iconst (pc := 34) (v := (-1)) C dX12_taken_34 rfl ?_
          refine x_icmp_eq_f (pc := 35) C 51 dX12_taken_35 (by decide) (by decide) ?_
          refine x_iload_n (pc := 38) C 0 dX12_taken_38 rfl ?_
          refine x_iload_n (pc := 39) C 3 dX12_taken_39 rfl ?_
          refine x_icmp_eq_f (pc := 40) C 51 dX12_taken_40 (by decide) (by decide) ?_
          refine x_iload_n (pc := 43) C 0 dX12_taken_43 rfl ?_
          refine x_callS (pc := 44) C E [.int 0] [] (c_X12_over t _ 0) m_X12_over q48_18 rfl (by decide) (Nat.le_of_ble_eq_true rfl) dX12_taken_44 rfl (k_I ?_)
          refine x_eq (show ovF 0 = -1 from by decide) ?_
          refine x_istore_n (pc := 47) (L' := [(3, .int (-1)), (0, .ref (t.1 0)), (1, .int (nI d)), (2, .int 1)]) C dX12_taken_47 (by decide) rfl ?_
          refine x_goto (pc := 48) C 33 dX12_taken_48 (by decide) ?_
          refine x_iload_n (pc := 33) C 0 dX12_taken_33 rfl ?_
          refine x_iconst (pc := 34) (v := (-1)) C dX12_taken_34 rfl ?_
          refine x_icmp_eq_t (pc := 35) C 51 dX12_taken_35 (by decide) (by decide) ?_
          refine x_iload_n (pc := 51) C 0 dX12_taken_51 rfl ?_
          refine x_iload_n (pc := 52) C 3 dX12_taken_52 rfl ?_
          refine x_icmp_ne_t (pc := 53) C 67 dX12_taken_53 (by decide) (by decide) ?_
          refine x_bipush (pc := 67) (v := (-13)) C dX12_taken_67 rfl ?_
          exact x_iret (pc := 69) C X dX12_taken_69 (faq (by
                unfold a_taken
                simp only [hod, hk]
                refine (if_neg (by decide)).trans ?_
                refine (if_neg (by rw [h20]; decide)).trans ?_
                exact if_neg (by decide)) h hg)
        
      · obtain rfl : x2 = 2 := i_eq.mpr hk9
        refine x_aload_n (pc := 26) C 0 dX12_taken_26 rfl ?_
        refine g_M_kinds (pc := 27) C E q11_15 dX12_taken_27 ?_
        refine x_iload_n (pc := 30) C 1 dX12_taken_30 rfl ?_
        refine l_Rkinds (pc := 31) C E (by omega) dX12_taken_31 ?_
        refine x_eq (show M 4 d = nI (vK (sV (σ)) d) from (rr_kd h (by omega))) ?_
        rcases (by omega : vK (sV σ) d = 0 ∨ vK (sV σ) d = 1 ∨ vK (sV σ) d = 2 ∨ vK (sV σ) d = 3 ∨ vK (sV σ) d = 4 ∨ vK (sV σ) d = 5) with hk | hk | hk | hk | hk | hk
        · refine x_eq (show nI (vK (sV σ) d) = nI 0 from by rw [hk]) ?_
          refine x_istore_n (pc := 32) (L' := [(3, .int (nI 0)), (0, .ref (t.1 0)), (1, .int (nI d)), (2, .int 2)]) C dX12_taken_32 (by decide) rfl ?_
          refine x_iload_n (pc := 33) C 0 dX12_taken_33 rfl ?_
          refine x_iconst (pc := 34) (v := (-1)) C dX12_taken_34 rfl ?_
          refine x_icmp_eq_f (pc := 35) C 51 dX12_taken_35 (by decide) (by decide) ?_
          refine x_iload_n (pc := 38) C 0 dX12_taken_38 rfl ?_
          refine x_iload_n (pc := 39) C 3 dX12_taken_39 rfl ?_
          refine x_icmp_eq_f (pc := 40) C 51 dX12_taken_40 (by decide) (by decide) ?_
          refine x_iload_n (pc := 43) C 0 dX12_taken_43 rfl ?_
          refine x_callS (pc := 44) C E [.int (nI 0)] [] (c_X12_over t _ (nI 0)) m_X12_over q48_18 rfl (by decide) (Nat.le_of_ble_eq_true rfl) dX12_taken_44 rfl (k_I ?_)
          refine x_eq (show ovF (nI 0) = -1 from by decide) ?_
          refine x_istore_n (pc := 47) (L' := [(3, .int (-1)), (0, .ref (t.1 0)), (1, .int (nI d)), (2, .int 2)]) C dX12_taken_47 (by decide) rfl ?_
          refine x_goto (pc := 48) C 33 dX12_taken_48 (by decide) ?_
          refine x_iload_n (pc := 33) C 0 dX12_taken_33 rfl ?_
          refine x_iconst (pc := 34) (v := (-1)) C dX12_taken_34 rfl ?_
          refine x_icmp_eq_t (pc := 35) C 51 dX12_taken_35 (by decide) (by decide) ?_
          refine x_iload_n (pc := 51) C 0 dX12_taken_51 rfl ?_
          refine x_iload_n (pc := 52) C 3 dX12_taken_52 rfl ?_
          refine x_icmp_ne_t (pc := 53) C 67 dX12_taken_53 (by decide) (by decide) ?_
          refine x_bipush (pc := 67) (v := (-13)) C dX12_taken_67 rfl ?_
          exact x_iret (pc := 69) C X dX12_taken_69 (faq (by
                unfold a_taken
                simp only [hod, hk]
                refine (if_neg (by decide)).trans ?_
                refine (if_neg (by rw [h20]; decide)).trans ?_
                exact if_neg (by decide)) h hg)
        · refine x_eq (show nI (vK (sV σ) d) = nI 1 from by rw [hk]) ?_
          refine x_istore_n (pc := 32) (L' := [(3, .int (nI 1)), (0, .ref (t.1 0)), (1, .int (nI d)), (2, .int 2)]) C dX12_taken_32 (by decide) rfl ?_
          refine x_iload_n (pc := 33) C 0 dX12_taken_33 rfl ?_
          refine x_iconst (pc := 34) (v := (-1)) C dX12_taken_34 rfl ?_
          refine x_icmp_eq_f (pc := 35) C 51 dX12_taken_35 (by decide) (by decide) ?_
          refine x_iload_n (pc := 38) C 0 dX12_taken_38 rfl ?_
          refine x_iload_n (pc := 39) C 3 dX12_taken_39 rfl ?_
          refine x_icmp_eq_f (pc := 40) C 51 dX12_taken_40 (by decide) (by decide) ?_
          refine x_iload_n (pc := 43) C 0 dX12_taken_43 rfl ?_
          refine x_callS (pc := 44) C E [.int (nI 1)] [] (c_X12_over t _ (nI 1)) m_X12_over q48_18 rfl (by decide) (Nat.le_of_ble_eq_true rfl) dX12_taken_44 rfl (k_I ?_)
          refine x_eq (show ovF (nI 1) = 0 from by decide) ?_
          refine x_istore_n (pc := 47) (L' := [(3, .int 0), (0, .ref (t.1 0)), (1, .int (nI d)), (2, .int 2)]) C dX12_taken_47 (by decide) rfl ?_
          refine x_goto (pc := 48) C 33 dX12_taken_48 (by decide) ?_
          refine x_iload_n (pc := 33) C 0 dX12_taken_33 rfl ?_
          refine x_iconst (pc := 34) (v := (-1)) C dX12_taken_34 rfl ?_
          refine x_icmp_eq_f (pc := 35) C 51 dX12_taken_35 (by decide) (by decide) ?_
          refine x_iload_n (pc := 38) C 0 dX12_taken_38 rfl ?_
          refine x_iload_n (pc := 39) C 3 dX12_taken_39 rfl ?_
          refine x_icmp_eq_f (pc := 40) C 51 dX12_taken_40 (by decide) (by decide) ?_
          refine x_iload_n (pc := 43) C 0 dX12_taken_43 rfl ?_
          refine x_callS (pc := 44) C E [.int 0] [] (c_X12_over t _ 0) m_X12_over q48_18 rfl (by decide) (Nat.le_of_ble_eq_true rfl) dX12_taken_44 rfl (k_I ?_)
          refine x_eq (show ovF 0 = -1 from by decide) ?_
          refine x_istore_n (pc := 47) (L' := [(3, .int (-1)), (0, .ref (t.1 0)), (1, .int (nI d)), (2, .int 2)]) C dX12_taken_47 (by decide) rfl ?_
          refine x_goto (pc := 48) C 33 dX12_taken_48 (by decide) ?_
          refine x_iload_n (pc := 33) C 0 dX12_taken_33 rfl ?_
          refine x_iconst (pc := 34) (v := (-1)) C dX12_taken_34 rfl ?_
          refine x_icmp_eq_t (pc := 35) C 51 dX12_taken_35 (by decide) (by decide) ?_
          refine x_iload_n (pc := 51) C 0 dX12_taken_51 rfl ?_
          refine x_iload_n (pc := 52) C 3 dX12_taken_52 rfl ?_
          refine x_icmp_ne_t (pc := 53) C 67 dX12_taken_53 (by decide) (by decide) ?_
          refine x_bipush (pc := 67) (v := (-13)) C dX12_taken_67 rfl ?_
          exact x_iret (pc := 69) C X dX12_taken_69 (faq (by
                unfold a_taken
                simp only [hod, hk]
                refine (if_neg (by decide)).trans ?_
                refine (if_neg (by rw [h20]; decide)).trans ?_
                exact if_neg (by decide)) h hg)
        · refine x_eq (show nI (vK (sV σ) d) = nI 2 from by rw [hk]) ?_
          refine x_istore_n (pc := 32) (L' := [(3, .int (nI 2)), (0, .ref (t.1 0)), (1, .int (nI d)), (2, .int 2)]) C dX12_taken_32 (by decide) rfl ?_
          refine x_iload_n (pc := 33) C 0 dX12_taken_33 rfl ?_
          refine x_iconst (pc := 34) (v := (-1)) C dX12_taken_34 rfl ?_
          refine x_icmp_eq_f (pc := 35) C 51 dX12_taken_35 (by decide) (by decide) ?_
          refine x_iload_n (pc := 38) C 0 dX12_taken_38 rfl ?_
          refine x_iload_n (pc := 39) C 3 dX12_taken_39 rfl ?_
          refine x_icmp_eq_t (pc := 40) C 51 dX12_taken_40 (by decide) (by decide) ?_
          refine x_iload_n (pc := 51) C 0 dX12_taken_51 rfl ?_
          refine x_iload_n (pc := 52) C 3 dX12_taken_52 rfl ?_
          refine x_icmp_ne_f (pc := 53) C 67 dX12_taken_53 (by decide) (by decide) ?_
          refine x_aload_n (pc := 56) C 1 dX12_taken_56 rfl ?_
          refine g_M_rows (pc := 57) C E q11_16 dX12_taken_57 ?_
          refine x_iconst (pc := 60) (v := (nI 2)) C dX12_taken_60 (by decide) ?_
          refine x_iload_n (pc := 61) C 2 dX12_taken_61 rfl ?_
          refine x_imul (pc := 62) C dX12_taken_62 ?_
          refine x_eq (show (nI 2) * (nI d) = nI (2 * d) from pk_mul _ _) ?_
          refine l_Rrows (pc := 63) C E (by omega) dX12_taken_63 ?_
          refine x_eq (show M 5 (2 * d) = vU (sV (σ)) d from (rr_num h (by omega))) ?_
          refine x_goto (pc := 64) C 69 dX12_taken_64 (by decide) ?_
          exact x_iret (pc := 69) C X dX12_taken_69 (faq (by
                unfold a_taken
                simp only [hod, hk]
                refine (if_neg (by decide)).trans ?_
                refine (if_neg (by rw [h20]; decide)).trans ?_
                exact if_pos (by decide)) h hg)
        · refine x_eq (show nI (vK (sV σ) d) = nI 3 from by rw [hk]) ?_
          refine x_istore_n (pc := 32) (L' := [(3, .int (nI 3)), (0, .ref (t.1 0)), (1, .int (nI d)), (2, .int 2)]) C dX12_taken_32 (by decide) rfl ?_
          refine x_iload_n (pc := 33) C 0 dX12_taken_33 rfl ?_
          refine x_iconst (pc := 34) (v := (-1)) C dX12_taken_34 rfl ?_
          refine x_icmp_eq_f (pc := 35) C 51 dX12_taken_35 (by decide) (by decide) ?_
          refine x_iload_n (pc := 38) C 0 dX12_taken_38 rfl ?_
          refine x_iload_n (pc := 39) C 3 dX12_taken_39 rfl ?_
          refine x_icmp_eq_f (pc := 40) C 51 dX12_taken_40 (by decide) (by decide) ?_
          refine x_iload_n (pc := 43) C 0 dX12_taken_43 rfl ?_
          refine x_callS (pc := 44) C E [.int (nI 3)] [] (c_X12_over t _ (nI 3)) m_X12_over q48_18 rfl (by decide) (Nat.le_of_ble_eq_true rfl) dX12_taken_44 rfl (k_I ?_)
          refine x_eq (show ovF (nI 3) = 1 from by decide) ?_
          refine x_istore_n (pc := 47) (L' := [(3, .int 1), (0, .ref (t.1 0)), (1, .int (nI d)), (2, .int 2)]) C dX12_taken_47 (by decide) rfl ?_
          refine x_goto (pc := 48) C 33 dX12_taken_48 (by decide) ?_
          refine x_iload_n (pc := 33) C 0 dX12_taken_33 rfl ?_
          refine x_iconst (pc := 34) (v := (-1)) C dX12_taken_34 rfl ?_
          refine x_icmp_eq_f (pc := 35) C 51 dX12_taken_35 (by decide) (by decide) ?_
          refine x_iload_n (pc := 38) C 0 dX12_taken_38 rfl ?_
          refine x_iload_n (pc := 39) C 3 dX12_taken_39 rfl ?_
          refine x_icmp_eq_f (pc := 40) C 51 dX12_taken_40 (by decide) (by decide) ?_
          refine x_iload_n (pc := 43) C 0 dX12_taken_43 rfl ?_
          refine x_callS (pc := 44) C E [.int 1] [] (c_X12_over t _ 1) m_X12_over q48_18 rfl (by decide) (Nat.le_of_ble_eq_true rfl) dX12_taken_44 rfl (k_I ?_)
          refine x_eq (show ovF 1 = 0 from by decide) ?_
          refine x_istore_n (pc := 47) (L' := [(3, .int 0), (0, .ref (t.1 0)), (1, .int (nI d)), (2, .int 2)]) C dX12_taken_47 (by decide) rfl ?_
          refine x_goto (pc := 48) C 33 dX12_taken_48 (by decide) ?_
          refine x_iload_n (pc := 33) C 0 dX12_taken_33 rfl ?_
          refine x_iconst (pc := 34) (v := (-1)) C dX12_taken_34 rfl ?_
          refine x_icmp_eq_f (pc := 35) C 51 dX12_taken_35 (by decide) (by decide) ?_
          refine x_iload_n (pc := 38) C 0 dX12_taken_38 rfl ?_
          refine x_iload_n (pc := 39) C 3 dX12_taken_39 rfl ?_
          refine x_icmp_eq_f (pc := 40) C 51 dX12_taken_40 (by decide) (by decide) ?_
          refine x_iload_n (pc := 43) C 0 dX12_taken_43 rfl ?_
          refine x_callS (pc := 44) C E [.int 0] [] (c_X12_over t _ 0) m_X12_over q48_18 rfl (by decide) (Nat.le_of_ble_eq_true rfl) dX12_taken_44 rfl (k_I ?_)
          refine x_eq (show ovF 0 = -1 from by decide) ?_
          refine x_istore_n (pc := 47) (L' := [(3, .int (-1)), (0, .ref (t.1 0)), (1, .int (nI d)), (2, .int 2)]) C dX12_taken_47 (by decide) rfl ?_
          refine x_goto (pc := 48) C 33 dX12_taken_48 (by decide) ?_
          refine x_iload_n (pc := 33) C 0 dX12_taken_33 rfl ?_
          refine x_iconst (pc := 34) (v := (-1)) C dX12_taken_34 rfl ?_
          refine x_icmp_eq_t (pc := 35) C 51 dX12_taken_35 (by decide) (by decide) ?_
          refine x_iload_n (pc := 51) C 0 dX12_taken_51 rfl ?_
          refine x_iload_n (pc := 52) C 3 dX12_taken_52 rfl ?_
          refine x_icmp_ne_t (pc := 53) C 67 dX12_taken_53 (by decide) (by decide) ?_
          refine x_bipush (pc := 67) (v := (-13)) C dX12_taken_67 rfl ?_
          exact x_iret (pc := 69) C X dX12_taken_69 (faq (by
                unfold a_taken
                simp only [hod, hk]
                refine (if_neg (by decide)).trans ?_
                refine (if_neg (by rw [h20]; decide)).trans ?_
                exact if_neg (by decide)) h hg)
        · refine x_eq (show nI (vK (sV σ) d) = nI 4 from by rw [hk]) ?_
          refine x_istore_n (pc := 32) (L' := [(3, .int (nI 4)), (0, .ref (t.1 0)), (1, .int (nI d)), (2, .int 2)]) C dX12_taken_32 (by decide) rfl ?_
          refine x_iload_n (pc := 33) C 0 dX12_taken_33 rfl ?_
          refine x_iconst (pc := 34) (v := (-1)) C dX12_taken_34 rfl ?_
          refine x_icmp_eq_f (pc := 35) C 51 dX12_taken_35 (by decide) (by decide) ?_
          refine x_iload_n (pc := 38) C 0 dX12_taken_38 rfl ?_
          refine x_iload_n (pc := 39) C 3 dX12_taken_39 rfl ?_
          refine x_icmp_eq_f (pc := 40) C 51 dX12_taken_40 (by decide) (by decide) ?_
          refine x_iload_n (pc := 43) C 0 dX12_taken_43 rfl ?_
          refine x_callS (pc := 44) C E [.int (nI 4)] [] (c_X12_over t _ (nI 4)) m_X12_over q48_18 rfl (by decide) (Nat.le_of_ble_eq_true rfl) dX12_taken_44 rfl (k_I ?_)
          refine x_eq (show ovF (nI 4) = 2 from by decide) ?_
          refine x_istore_n (pc := 47) (L' := [(3, .int 2), (0, .ref (t.1 0)), (1, .int (nI d)), (2, .int 2)]) C dX12_taken_47 (by decide) rfl ?_
          refine x_goto (pc := 48) C 33 dX12_taken_48 (by decide) ?_
          refine x_iload_n (pc := 33) C 0 dX12_taken_33 rfl ?_
          refine x_iconst (pc := 34) (v := (-1)) C dX12_taken_34 rfl ?_
          refine x_icmp_eq_f (pc := 35) C 51 dX12_taken_35 (by decide) (by decide) ?_
          refine x_iload_n (pc := 38) C 0 dX12_taken_38 rfl ?_
          refine x_iload_n (pc := 39) C 3 dX12_taken_39 rfl ?_
          refine x_icmp_eq_t (pc := 40) C 51 dX12_taken_40 (by decide) (by decide) ?_
          refine x_iload_n (pc := 51) C 0 dX12_taken_51 rfl ?_
          refine x_iload_n (pc := 52) C 3 dX12_taken_52 rfl ?_
          refine x_icmp_ne_f (pc := 53) C 67 dX12_taken_53 (by decide) (by decide) ?_
          refine x_aload_n (pc := 56) C 1 dX12_taken_56 rfl ?_
          refine g_M_rows (pc := 57) C E q11_16 dX12_taken_57 ?_
          refine x_iconst (pc := 60) (v := (nI 2)) C dX12_taken_60 (by decide) ?_
          refine x_iload_n (pc := 61) C 2 dX12_taken_61 rfl ?_
          refine x_imul (pc := 62) C dX12_taken_62 ?_
          refine x_eq (show (nI 2) * (nI d) = nI (2 * d) from pk_mul _ _) ?_
          refine l_Rrows (pc := 63) C E (by omega) dX12_taken_63 ?_
          refine x_eq (show M 5 (2 * d) = vU (sV (σ)) d from (rr_num h (by omega))) ?_
          refine x_goto (pc := 64) C 69 dX12_taken_64 (by decide) ?_
          exact x_iret (pc := 69) C X dX12_taken_69 (faq (by
                unfold a_taken
                simp only [hod, hk]
                refine (if_neg (by decide)).trans ?_
                refine (if_neg (by rw [h20]; decide)).trans ?_
                exact if_pos (by decide)) h hg)
        · refine x_eq (show nI (vK (sV σ) d) = nI 5 from by rw [hk]) ?_
          refine x_istore_n (pc := 32) (L' := [(3, .int (nI 5)), (0, .ref (t.1 0)), (1, .int (nI d)), (2, .int 2)]) C dX12_taken_32 (by decide) rfl ?_
          refine x_iload_n (pc := 33) C 0 dX12_taken_33 rfl ?_
          refine x_iconst (pc := 34) (v := (-1)) C dX12_taken_34 rfl ?_
          refine x_icmp_eq_f (pc := 35) C 51 dX12_taken_35 (by decide) (by decide) ?_
          refine x_iload_n (pc := 38) C 0 dX12_taken_38 rfl ?_
          refine x_iload_n (pc := 39) C 3 dX12_taken_39 rfl ?_
          refine x_icmp_eq_f (pc := 40) C 51 dX12_taken_40 (by decide) (by decide) ?_
          refine x_iload_n (pc := 43) C 0 dX12_taken_43 rfl ?_
          refine x_callS (pc := 44) C E [.int (nI 5)] [] (c_X12_over t _ (nI 5)) m_X12_over q48_18 rfl (by decide) (Nat.le_of_ble_eq_true rfl) dX12_taken_44 rfl (k_I ?_)
          refine x_eq (show ovF (nI 5) = 0 from by decide) ?_
          refine x_istore_n (pc := 47) (L' := [(3, .int 0), (0, .ref (t.1 0)), (1, .int (nI d)), (2, .int 2)]) C dX12_taken_47 (by decide) rfl ?_
          refine x_goto (pc := 48) C 33 dX12_taken_48 (by decide) ?_
          refine x_iload_n (pc := 33) C 0 dX12_taken_33 rfl ?_
          refine x_iconst (pc := 34) (v := (-1)) C dX12_taken_34 rfl ?_
          refine x_icmp_eq_f (pc := 35) C 51 dX12_taken_35 (by decide) (by decide) ?_
          refine x_iload_n (pc := 38) C 0 dX12_taken_38 rfl ?_
          refine x_iload_n (pc := 39) C 3 dX12_taken_39 rfl ?_
          refine x_icmp_eq_f (pc := 40) C 51 dX12_taken_40 (by decide) (by decide) ?_
          refine x_iload_n (pc := 43) C 0 dX12_taken_43 rfl ?_
          refine x_callS (pc := 44) C E [.int 0] [] (c_X12_over t _ 0) m_X12_over q48_18 rfl (by decide) (Nat.le_of_ble_eq_true rfl) dX12_taken_44 rfl (k_I ?_)
          refine x_eq (show ovF 0 = -1 from by decide) ?_
          refine x_istore_n (pc := 47) (L' := [(3, .int (-1)), (0, .ref (t.1 0)), (1, .int (nI d)), (2, .int 2)]) C dX12_taken_47 (by decide) rfl ?_
          refine x_goto (pc := 48) C 33 dX12_taken_48 (by decide) ?_
          refine x_iload_n (pc := 33) C 0 dX12_taken_33 rfl ?_
          refine x_iconst (pc := 34) (v := (-1)) C dX12_taken_34 rfl ?_
          refine x_icmp_eq_t (pc := 35) C 51 dX12_taken_35 (by decide) (by decide) ?_
          refine x_iload_n (pc := 51) C 0 dX12_taken_51 rfl ?_
          refine x_iload_n (pc := 52) C 3 dX12_taken_52 rfl ?_
          refine x_icmp_ne_t (pc := 53) C 67 dX12_taken_53 (by decide) (by decide) ?_
          refine x_bipush (pc := 67) (v := (-13)) C dX12_taken_67 rfl ?_
          exact x_iret (pc := 69) C X dX12_taken_69 (faq (by
                unfold a_taken
                simp only [hod, hk]
                refine (if_neg (by decide)).trans ?_
                refine (if_neg (by rw [h20]; decide)).trans ?_
                exact if_neg (by decide)) h hg)
        
      · obtain rfl : x2 = 3 := i_eq.mpr hk9
        refine x_aload_n (pc := 26) C 0 dX12_taken_26 rfl ?_
        refine g_M_kinds (pc := 27) C E q11_15 dX12_taken_27 ?_
        refine x_iload_n (pc := 30) C 1 dX12_taken_30 rfl ?_
        refine l_Rkinds (pc := 31) C E (by omega) dX12_taken_31 ?_
        refine x_eq (show M 4 d = nI (vK (sV (σ)) d) from (rr_kd h (by omega))) ?_
        rcases (by omega : vK (sV σ) d = 0 ∨ vK (sV σ) d = 1 ∨ vK (sV σ) d = 2 ∨ vK (sV σ) d = 3 ∨ vK (sV σ) d = 4 ∨ vK (sV σ) d = 5) with hk | hk | hk | hk | hk | hk
        · refine x_eq (show nI (vK (sV σ) d) = nI 0 from by rw [hk]) ?_
          refine x_istore_n (pc := 32) (L' := [(3, .int (nI 0)), (0, .ref (t.1 0)), (1, .int (nI d)), (2, .int 3)]) C dX12_taken_32 (by decide) rfl ?_
          refine x_iload_n (pc := 33) C 0 dX12_taken_33 rfl ?_
          refine x_iconst (pc := 34) (v := (-1)) C dX12_taken_34 rfl ?_
          refine x_icmp_eq_f (pc := 35) C 51 dX12_taken_35 (by decide) (by decide) ?_
          refine x_iload_n (pc := 38) C 0 dX12_taken_38 rfl ?_
          refine x_iload_n (pc := 39) C 3 dX12_taken_39 rfl ?_
          refine x_icmp_eq_f (pc := 40) C 51 dX12_taken_40 (by decide) (by decide) ?_
          refine x_iload_n (pc := 43) C 0 dX12_taken_43 rfl ?_
          refine x_callS (pc := 44) C E [.int (nI 0)] [] (c_X12_over t _ (nI 0)) m_X12_over q48_18 rfl (by decide) (Nat.le_of_ble_eq_true rfl) dX12_taken_44 rfl (k_I ?_)
          refine x_eq (show ovF (nI 0) = -1 from by decide) ?_
          refine x_istore_n (pc := 47) (L' := [(3, .int (-1)), (0, .ref (t.1 0)), (1, .int (nI d)), (2, .int 3)]) C dX12_taken_47 (by decide) rfl ?_
          refine x_goto (pc := 48) C 33 dX12_taken_48 (by decide) ?_
          refine x_iload_n (pc := 33) C 0 dX12_taken_33 rfl ?_
          refine x_iconst (pc := 34) (v := (-1)) C dX12_taken_34 rfl ?_
          refine x_icmp_eq_t (pc := 35) C 51 dX12_taken_35 (by decide) (by decide) ?_
          refine x_iload_n (pc := 51) C 0 dX12_taken_51 rfl ?_
          refine x_iload_n (pc := 52) C 3 dX12_taken_52 rfl ?_
          refine x_icmp_ne_t (pc := 53) C 67 dX12_taken_53 (by decide) (by decide) ?_
          refine x_bipush (pc := 67) (v := (-13)) C dX12_taken_67 rfl ?_
          exact x_iret (pc := 69) C X dX12_taken_69 (faq (by
                unfold a_taken
                simp only [hod, hk]
                refine (if_neg (by decide)).trans ?_
                refine (if_neg (by rw [h20]; decide)).trans ?_
                exact if_neg (by decide)) h hg)
        · refine x_eq (show nI (vK (sV σ) d) = nI 1 from by rw [hk]) ?_
          refine x_istore_n (pc := 32) (L' := [(3, .int (nI 1)), (0, .ref (t.1 0)), (1, .int (nI d)), (2, .int 3)]) C dX12_taken_32 (by decide) rfl ?_
          refine x_iload_n (pc := 33) C 0 dX12_taken_33 rfl ?_
          refine x_iconst (pc := 34) (v := (-1)) C dX12_taken_34 rfl ?_
          refine x_icmp_eq_f (pc := 35) C 51 dX12_taken_35 (by decide) (by decide) ?_
          refine x_iload_n (pc := 38) C 0 dX12_taken_38 rfl ?_
          refine x_iload_n (pc := 39) C 3 dX12_taken_39 rfl ?_
          refine x_icmp_eq_f (pc := 40) C 51 dX12_taken_40 (by decide) (by decide) ?_
          refine x_iload_n (pc := 43) C 0 dX12_taken_43 rfl ?_
          refine x_callS (pc := 44) C E [.int (nI 1)] [] (c_X12_over t _ (nI 1)) m_X12_over q48_18 rfl (by decide) (Nat.le_of_ble_eq_true rfl) dX12_taken_44 rfl (k_I ?_)
          refine x_eq (show ovF (nI 1) = 0 from by decide) ?_
          refine x_istore_n (pc := 47) (L' := [(3, .int 0), (0, .ref (t.1 0)), (1, .int (nI d)), (2, .int 3)]) C dX12_taken_47 (by decide) rfl ?_
          refine x_goto (pc := 48) C 33 dX12_taken_48 (by decide) ?_
          refine x_iload_n (pc := 33) C 0 dX12_taken_33 rfl ?_
          refine x_iconst (pc := 34) (v := (-1)) C dX12_taken_34 rfl ?_
          refine x_icmp_eq_f (pc := 35) C 51 dX12_taken_35 (by decide) (by decide) ?_
          refine x_iload_n (pc := 38) C 0 dX12_taken_38 rfl ?_
          refine x_iload_n (pc := 39) C 3 dX12_taken_39 rfl ?_
          refine x_icmp_eq_f (pc := 40) C 51 dX12_taken_40 (by decide) (by decide) ?_
          refine x_iload_n (pc := 43) C 0 dX12_taken_43 rfl ?_
          refine x_callS (pc := 44) C E [.int 0] [] (c_X12_over t _ 0) m_X12_over q48_18 rfl (by decide) (Nat.le_of_ble_eq_true rfl) dX12_taken_44 rfl (k_I ?_)
          refine x_eq (show ovF 0 = -1 from by decide) ?_
          refine x_istore_n (pc := 47) (L' := [(3, .int (-1)), (0, .ref (t.1 0)), (1, .int (nI d)), (2, .int 3)]) C dX12_taken_47 (by decide) rfl ?_
          refine x_goto (pc := 48) C 33 dX12_taken_48 (by decide) ?_
          refine x_iload_n (pc := 33) C 0 dX12_taken_33 rfl ?_
          refine x_iconst (pc := 34) (v := (-1)) C dX12_taken_34 rfl ?_
          refine x_icmp_eq_t (pc := 35) C 51 dX12_taken_35 (by decide) (by decide) ?_
          refine x_iload_n (pc := 51) C 0 dX12_taken_51 rfl ?_
          refine x_iload_n (pc := 52) C 3 dX12_taken_52 rfl ?_
          refine x_icmp_ne_t (pc := 53) C 67 dX12_taken_53 (by decide) (by decide) ?_
          refine x_bipush (pc := 67) (v := (-13)) C dX12_taken_67 rfl ?_
          exact x_iret (pc := 69) C X dX12_taken_69 (faq (by
                unfold a_taken
                simp only [hod, hk]
                refine (if_neg (by decide)).trans ?_
                refine (if_neg (by rw [h20]; decide)).trans ?_
                exact if_neg (by decide)) h hg)
        · refine x_eq (show nI (vK (sV σ) d) = nI 2 from by rw [hk]) ?_
          refine x_istore_n (pc := 32) (L' := [(3, .int (nI 2)), (0, .ref (t.1 0)), (1, .int (nI d)), (2, .int 3)]) C dX12_taken_32 (by decide) rfl ?_
          refine x_iload_n (pc := 33) C 0 dX12_taken_33 rfl ?_
          refine x_iconst (pc := 34) (v := (-1)) C dX12_taken_34 rfl ?_
          refine x_icmp_eq_f (pc := 35) C 51 dX12_taken_35 (by decide) (by decide) ?_
          refine x_iload_n (pc := 38) C 0 dX12_taken_38 rfl ?_
          refine x_iload_n (pc := 39) C 3 dX12_taken_39 rfl ?_
          refine x_icmp_eq_f (pc := 40) C 51 dX12_taken_40 (by decide) (by decide) ?_
          refine x_iload_n (pc := 43) C 0 dX12_taken_43 rfl ?_
          refine x_callS (pc := 44) C E [.int (nI 2)] [] (c_X12_over t _ (nI 2)) m_X12_over q48_18 rfl (by decide) (Nat.le_of_ble_eq_true rfl) dX12_taken_44 rfl (k_I ?_)
          refine x_eq (show ovF (nI 2) = 0 from by decide) ?_
          refine x_istore_n (pc := 47) (L' := [(3, .int 0), (0, .ref (t.1 0)), (1, .int (nI d)), (2, .int 3)]) C dX12_taken_47 (by decide) rfl ?_
          refine x_goto (pc := 48) C 33 dX12_taken_48 (by decide) ?_
          refine x_iload_n (pc := 33) C 0 dX12_taken_33 rfl ?_
          refine x_iconst (pc := 34) (v := (-1)) C dX12_taken_34 rfl ?_
          refine x_icmp_eq_f (pc := 35) C 51 dX12_taken_35 (by decide) (by decide) ?_
          refine x_iload_n (pc := 38) C 0 dX12_taken_38 rfl ?_
          refine x_iload_n (pc := 39) C 3 dX12_taken_39 rfl ?_
          refine x_icmp_eq_f (pc := 40) C 51 dX12_taken_40 (by decide) (by decide) ?_
          refine x_iload_n (pc := 43) C 0 dX12_taken_43 rfl ?_
          refine x_callS (pc := 44) C E [.int 0] [] (c_X12_over t _ 0) m_X12_over q48_18 rfl (by decide) (Nat.le_of_ble_eq_true rfl) dX12_taken_44 rfl (k_I ?_)
          refine x_eq (show ovF 0 = -1 from by decide) ?_
          refine x_istore_n (pc := 47) (L' := [(3, .int (-1)), (0, .ref (t.1 0)), (1, .int (nI d)), (2, .int 3)]) C dX12_taken_47 (by decide) rfl ?_
          refine x_goto (pc := 48) C 33 dX12_taken_48 (by decide) ?_
          refine x_iload_n (pc := 33) C 0 dX12_taken_33 rfl ?_
          refine x_iconst (pc := 34) (v := (-1)) C dX12_taken_34 rfl ?_
          refine x_icmp_eq_t (pc := 35) C 51 dX12_taken_35 (by decide) (by decide) ?_
          refine x_iload_n (pc := 51) C 0 dX12_taken_51 rfl ?_
          refine x_iload_n (pc := 52) C 3 dX12_taken_52 rfl ?_
          refine x_icmp_ne_t (pc := 53) C 67 dX12_taken_53 (by decide) (by decide) ?_
          refine x_bipush (pc := 67) (v := (-13)) C dX12_taken_67 rfl ?_
          exact x_iret (pc := 69) C X dX12_taken_69 (faq (by
                unfold a_taken
                simp only [hod, hk]
                refine (if_neg (by decide)).trans ?_
                refine (if_neg (by rw [h20]; decide)).trans ?_
                exact if_neg (by decide)) h hg)
        · refine x_eq (show nI (vK (sV σ) d) = nI 3 from by rw [hk]) ?_
          refine x_istore_n (pc := 32) (L' := [(3, .int (nI 3)), (0, .ref (t.1 0)), (1, .int (nI d)), (2, .int 3)]) C dX12_taken_32 (by decide) rfl ?_
          refine x_iload_n (pc := 33) C 0 dX12_taken_33 rfl ?_
          refine x_iconst (pc := 34) (v := (-1)) C dX12_taken_34 rfl ?_
          refine x_icmp_eq_f (pc := 35) C 51 dX12_taken_35 (by decide) (by decide) ?_
          refine x_iload_n (pc := 38) C 0 dX12_taken_38 rfl ?_
          refine x_iload_n (pc := 39) C 3 dX12_taken_39 rfl ?_
          refine x_icmp_eq_t (pc := 40) C 51 dX12_taken_40 (by decide) (by decide) ?_
          refine x_iload_n (pc := 51) C 0 dX12_taken_51 rfl ?_
          refine x_iload_n (pc := 52) C 3 dX12_taken_52 rfl ?_
          refine x_icmp_ne_f (pc := 53) C 67 dX12_taken_53 (by decide) (by decide) ?_
          refine x_aload_n (pc := 56) C 1 dX12_taken_56 rfl ?_
          refine g_M_rows (pc := 57) C E q11_16 dX12_taken_57 ?_
          refine x_iconst (pc := 60) (v := (nI 2)) C dX12_taken_60 (by decide) ?_
          refine x_iload_n (pc := 61) C 2 dX12_taken_61 rfl ?_
          refine x_imul (pc := 62) C dX12_taken_62 ?_
          refine x_eq (show (nI 2) * (nI d) = nI (2 * d) from pk_mul _ _) ?_
          refine l_Rrows (pc := 63) C E (by omega) dX12_taken_63 ?_
          refine x_eq (show M 5 (2 * d) = vU (sV (σ)) d from (rr_num h (by omega))) ?_
          refine x_goto (pc := 64) C 69 dX12_taken_64 (by decide) ?_
          exact x_iret (pc := 69) C X dX12_taken_69 (faq (by
                unfold a_taken
                simp only [hod, hk]
                refine (if_neg (by decide)).trans ?_
                refine (if_neg (by rw [h20]; decide)).trans ?_
                exact if_pos (by decide)) h hg)
        · refine x_eq (show nI (vK (sV σ) d) = nI 4 from by rw [hk]) ?_
          refine x_istore_n (pc := 32) (L' := [(3, .int (nI 4)), (0, .ref (t.1 0)), (1, .int (nI d)), (2, .int 3)]) C dX12_taken_32 (by decide) rfl ?_
          refine x_iload_n (pc := 33) C 0 dX12_taken_33 rfl ?_
          refine x_iconst (pc := 34) (v := (-1)) C dX12_taken_34 rfl ?_
          refine x_icmp_eq_f (pc := 35) C 51 dX12_taken_35 (by decide) (by decide) ?_
          refine x_iload_n (pc := 38) C 0 dX12_taken_38 rfl ?_
          refine x_iload_n (pc := 39) C 3 dX12_taken_39 rfl ?_
          refine x_icmp_eq_f (pc := 40) C 51 dX12_taken_40 (by decide) (by decide) ?_
          refine x_iload_n (pc := 43) C 0 dX12_taken_43 rfl ?_
          refine x_callS (pc := 44) C E [.int (nI 4)] [] (c_X12_over t _ (nI 4)) m_X12_over q48_18 rfl (by decide) (Nat.le_of_ble_eq_true rfl) dX12_taken_44 rfl (k_I ?_)
          refine x_eq (show ovF (nI 4) = 2 from by decide) ?_
          refine x_istore_n (pc := 47) (L' := [(3, .int 2), (0, .ref (t.1 0)), (1, .int (nI d)), (2, .int 3)]) C dX12_taken_47 (by decide) rfl ?_
          refine x_goto (pc := 48) C 33 dX12_taken_48 (by decide) ?_
          refine x_iload_n (pc := 33) C 0 dX12_taken_33 rfl ?_
          refine x_iconst (pc := 34) (v := (-1)) C dX12_taken_34 rfl ?_
          refine x_icmp_eq_f (pc := 35) C 51 dX12_taken_35 (by decide) (by decide) ?_
          refine x_iload_n (pc := 38) C 0 dX12_taken_38 rfl ?_
          refine x_iload_n (pc := 39) C 3 dX12_taken_39 rfl ?_
          refine x_icmp_eq_f (pc := 40) C 51 dX12_taken_40 (by decide) (by decide) ?_
          refine x_iload_n (pc := 43) C 0 dX12_taken_43 rfl ?_
          refine x_callS (pc := 44) C E [.int 2] [] (c_X12_over t _ 2) m_X12_over q48_18 rfl (by decide) (Nat.le_of_ble_eq_true rfl) dX12_taken_44 rfl (k_I ?_)
          refine x_eq (show ovF 2 = 0 from by decide) ?_
          refine x_istore_n (pc := 47) (L' := [(3, .int 0), (0, .ref (t.1 0)), (1, .int (nI d)), (2, .int 3)]) C dX12_taken_47 (by decide) rfl ?_
          refine x_goto (pc := 48) C 33 dX12_taken_48 (by decide) ?_
          refine x_iload_n (pc := 33) C 0 dX12_taken_33 rfl ?_
          refine x_iconst (pc := 34) (v := (-1)) C dX12_taken_34 rfl ?_
          refine x_icmp_eq_f (pc := 35) C 51 dX12_taken_35 (by decide) (by decide) ?_
          refine x_iload_n (pc := 38) C 0 dX12_taken_38 rfl ?_
          refine x_iload_n (pc := 39) C 3 dX12_taken_39 rfl ?_
          refine x_icmp_eq_f (pc := 40) C 51 dX12_taken_40 (by decide) (by decide) ?_
          refine x_iload_n (pc := 43) C 0 dX12_taken_43 rfl ?_
          refine x_callS (pc := 44) C E [.int 0] [] (c_X12_over t _ 0) m_X12_over q48_18 rfl (by decide) (Nat.le_of_ble_eq_true rfl) dX12_taken_44 rfl (k_I ?_)
          refine x_eq (show ovF 0 = -1 from by decide) ?_
          refine x_istore_n (pc := 47) (L' := [(3, .int (-1)), (0, .ref (t.1 0)), (1, .int (nI d)), (2, .int 3)]) C dX12_taken_47 (by decide) rfl ?_
          refine x_goto (pc := 48) C 33 dX12_taken_48 (by decide) ?_
          refine x_iload_n (pc := 33) C 0 dX12_taken_33 rfl ?_
          refine x_iconst (pc := 34) (v := (-1)) C dX12_taken_34 rfl ?_
          refine x_icmp_eq_t (pc := 35) C 51 dX12_taken_35 (by decide) (by decide) ?_
          refine x_iload_n (pc := 51) C 0 dX12_taken_51 rfl ?_
          refine x_iload_n (pc := 52) C 3 dX12_taken_52 rfl ?_
          refine x_icmp_ne_t (pc := 53) C 67 dX12_taken_53 (by decide) (by decide) ?_
          refine x_bipush (pc := 67) (v := (-13)) C dX12_taken_67 rfl ?_
          exact x_iret (pc := 69) C X dX12_taken_69 (faq (by
                unfold a_taken
                simp only [hod, hk]
                refine (if_neg (by decide)).trans ?_
                refine (if_neg (by rw [h20]; decide)).trans ?_
                exact if_neg (by decide)) h hg)
        · refine x_eq (show nI (vK (sV σ) d) = nI 5 from by rw [hk]) ?_
          refine x_istore_n (pc := 32) (L' := [(3, .int (nI 5)), (0, .ref (t.1 0)), (1, .int (nI d)), (2, .int 3)]) C dX12_taken_32 (by decide) rfl ?_
          refine x_iload_n (pc := 33) C 0 dX12_taken_33 rfl ?_
          refine x_iconst (pc := 34) (v := (-1)) C dX12_taken_34 rfl ?_
          refine x_icmp_eq_f (pc := 35) C 51 dX12_taken_35 (by decide) (by decide) ?_
          refine x_iload_n (pc := 38) C 0 dX12_taken_38 rfl ?_
          refine x_iload_n (pc := 39) C 3 dX12_taken_39 rfl ?_
          refine x_icmp_eq_f (pc := 40) C 51 dX12_taken_40 (by decide) (by decide) ?_
          refine x_iload_n (pc := 43) C 0 dX12_taken_43 rfl ?_
          refine x_callS (pc := 44) C E [.int (nI 5)] [] (c_X12_over t _ (nI 5)) m_X12_over q48_18 rfl (by decide) (Nat.le_of_ble_eq_true rfl) dX12_taken_44 rfl (k_I ?_)
          refine x_eq (show ovF (nI 5) = 0 from by decide) ?_
          refine x_istore_n (pc := 47) (L' := [(3, .int 0), (0, .ref (t.1 0)), (1, .int (nI d)), (2, .int 3)]) C dX12_taken_47 (by decide) rfl ?_
          refine x_goto (pc := 48) C 33 dX12_taken_48 (by decide) ?_
          refine x_iload_n (pc := 33) C 0 dX12_taken_33 rfl ?_
          refine x_iconst (pc := 34) (v := (-1)) C dX12_taken_34 rfl ?_
          refine x_icmp_eq_f (pc := 35) C 51 dX12_taken_35 (by decide) (by decide) ?_
          refine x_iload_n (pc := 38) C 0 dX12_taken_38 rfl ?_
          refine x_iload_n (pc := 39) C 3 dX12_taken_39 rfl ?_
          refine x_icmp_eq_f (pc := 40) C 51 dX12_taken_40 (by decide) (by decide) ?_
          refine x_iload_n (pc := 43) C 0 dX12_taken_43 rfl ?_
          refine x_callS (pc := 44) C E [.int 0] [] (c_X12_over t _ 0) m_X12_over q48_18 rfl (by decide) (Nat.le_of_ble_eq_true rfl) dX12_taken_44 rfl (k_I ?_)
          refine x_eq (show ovF 0 = -1 from by decide) ?_
          refine x_istore_n (pc := 47) (L' := [(3, .int (-1)), (0, .ref (t.1 0)), (1, .int (nI d)), (2, .int 3)]) C dX12_taken_47 (by decide) rfl ?_
          refine x_goto (pc := 48) C 33 dX12_taken_48 (by decide) ?_
          refine x_iload_n (pc := 33) C 0 dX12_taken_33 rfl ?_
          refine x_iconst (pc := 34) (v := (-1)) C dX12_taken_34 rfl ?_
          refine x_icmp_eq_t (pc := 35) C 51 dX12_taken_35 (by decide) (by decide) ?_
          refine x_iload_n (pc := 51) C 0 dX12_taken_51 rfl ?_
          refine x_iload_n (pc := 52) C 3 dX12_taken_52 rfl ?_
          refine x_icmp_ne_t (pc := 53) C 67 dX12_taken_53 (by decide) (by decide) ?_
          refine x_bipush (pc := 67) (v := (-13)) C dX12_taken_67 rfl ?_
          exact x_iret (pc := 69) C X dX12_taken_69 (faq (by
                unfold a_taken
                simp only [hod, hk]
                refine (if_neg (by decide)).trans ?_
                refine (if_neg (by rw [h20]; decide)).trans ?_
                exact if_neg (by decide)) h hg)
        
      · obtain rfl : x2 = 4 := i_eq.mpr hk9
        refine x_aload_n (pc := 26) C 0 dX12_taken_26 rfl ?_
        refine g_M_kinds (pc := 27) C E q11_15 dX12_taken_27 ?_
        refine x_iload_n (pc := 30) C 1 dX12_taken_30 rfl ?_
        refine l_Rkinds (pc := 31) C E (by omega) dX12_taken_31 ?_
        refine x_eq (show M 4 d = nI (vK (sV (σ)) d) from (rr_kd h (by omega))) ?_
        rcases (by omega : vK (sV σ) d = 0 ∨ vK (sV σ) d = 1 ∨ vK (sV σ) d = 2 ∨ vK (sV σ) d = 3 ∨ vK (sV σ) d = 4 ∨ vK (sV σ) d = 5) with hk | hk | hk | hk | hk | hk
        · refine x_eq (show nI (vK (sV σ) d) = nI 0 from by rw [hk]) ?_
          refine x_istore_n (pc := 32) (L' := [(3, .int (nI 0)), (0, .ref (t.1 0)), (1, .int (nI d)), (2, .int 4)]) C dX12_taken_32 (by decide) rfl ?_
          refine x_iload_n (pc := 33) C 0 dX12_taken_33 rfl ?_
          refine x_iconst (pc := 34) (v := (-1)) C dX12_taken_34 rfl ?_
          refine x_icmp_eq_f (pc := 35) C 51 dX12_taken_35 (by decide) (by decide) ?_
          refine x_iload_n (pc := 38) C 0 dX12_taken_38 rfl ?_
          refine x_iload_n (pc := 39) C 3 dX12_taken_39 rfl ?_
          refine x_icmp_eq_f (pc := 40) C 51 dX12_taken_40 (by decide) (by decide) ?_
          refine x_iload_n (pc := 43) C 0 dX12_taken_43 rfl ?_
          refine x_callS (pc := 44) C E [.int (nI 0)] [] (c_X12_over t _ (nI 0)) m_X12_over q48_18 rfl (by decide) (Nat.le_of_ble_eq_true rfl) dX12_taken_44 rfl (k_I ?_)
          refine x_eq (show ovF (nI 0) = -1 from by decide) ?_
          refine x_istore_n (pc := 47) (L' := [(3, .int (-1)), (0, .ref (t.1 0)), (1, .int (nI d)), (2, .int 4)]) C dX12_taken_47 (by decide) rfl ?_
          refine x_goto (pc := 48) C 33 dX12_taken_48 (by decide) ?_
          refine x_iload_n (pc := 33) C 0 dX12_taken_33 rfl ?_
          refine x_iconst (pc := 34) (v := (-1)) C dX12_taken_34 rfl ?_
          refine x_icmp_eq_t (pc := 35) C 51 dX12_taken_35 (by decide) (by decide) ?_
          refine x_iload_n (pc := 51) C 0 dX12_taken_51 rfl ?_
          refine x_iload_n (pc := 52) C 3 dX12_taken_52 rfl ?_
          refine x_icmp_ne_t (pc := 53) C 67 dX12_taken_53 (by decide) (by decide) ?_
          refine x_bipush (pc := 67) (v := (-13)) C dX12_taken_67 rfl ?_
          exact x_iret (pc := 69) C X dX12_taken_69 (faq (by
                unfold a_taken
                simp only [hod, hk]
                refine (if_neg (by decide)).trans ?_
                refine (if_neg (by rw [h20]; decide)).trans ?_
                exact if_neg (by decide)) h hg)
        · refine x_eq (show nI (vK (sV σ) d) = nI 1 from by rw [hk]) ?_
          refine x_istore_n (pc := 32) (L' := [(3, .int (nI 1)), (0, .ref (t.1 0)), (1, .int (nI d)), (2, .int 4)]) C dX12_taken_32 (by decide) rfl ?_
          refine x_iload_n (pc := 33) C 0 dX12_taken_33 rfl ?_
          refine x_iconst (pc := 34) (v := (-1)) C dX12_taken_34 rfl ?_
          refine x_icmp_eq_f (pc := 35) C 51 dX12_taken_35 (by decide) (by decide) ?_
          refine x_iload_n (pc := 38) C 0 dX12_taken_38 rfl ?_
          refine x_iload_n (pc := 39) C 3 dX12_taken_39 rfl ?_
          refine x_icmp_eq_f (pc := 40) C 51 dX12_taken_40 (by decide) (by decide) ?_
          refine x_iload_n (pc := 43) C 0 dX12_taken_43 rfl ?_
          refine x_callS (pc := 44) C E [.int (nI 1)] [] (c_X12_over t _ (nI 1)) m_X12_over q48_18 rfl (by decide) (Nat.le_of_ble_eq_true rfl) dX12_taken_44 rfl (k_I ?_)
          refine x_eq (show ovF (nI 1) = 0 from by decide) ?_
          refine x_istore_n (pc := 47) (L' := [(3, .int 0), (0, .ref (t.1 0)), (1, .int (nI d)), (2, .int 4)]) C dX12_taken_47 (by decide) rfl ?_
          refine x_goto (pc := 48) C 33 dX12_taken_48 (by decide) ?_
          refine x_iload_n (pc := 33) C 0 dX12_taken_33 rfl ?_
          refine x_iconst (pc := 34) (v := (-1)) C dX12_taken_34 rfl ?_
          refine x_icmp_eq_f (pc := 35) C 51 dX12_taken_35 (by decide) (by decide) ?_
          refine x_iload_n (pc := 38) C 0 dX12_taken_38 rfl ?_
          refine x_iload_n (pc := 39) C 3 dX12_taken_39 rfl ?_
          refine x_icmp_eq_f (pc := 40) C 51 dX12_taken_40 (by decide) (by decide) ?_
          refine x_iload_n (pc := 43) C 0 dX12_taken_43 rfl ?_
          refine x_callS (pc := 44) C E [.int 0] [] (c_X12_over t _ 0) m_X12_over q48_18 rfl (by decide) (Nat.le_of_ble_eq_true rfl) dX12_taken_44 rfl (k_I ?_)
          refine x_eq (show ovF 0 = -1 from by decide) ?_
          refine x_istore_n (pc := 47) (L' := [(3, .int (-1)), (0, .ref (t.1 0)), (1, .int (nI d)), (2, .int 4)]) C dX12_taken_47 (by decide) rfl ?_
          refine x_goto (pc := 48) C 33 dX12_taken_48 (by decide) ?_
          refine x_iload_n (pc := 33) C 0 dX12_taken_33 rfl ?_
          refine x_iconst (pc := 34) (v := (-1)) C dX12_taken_34 rfl ?_
          refine x_icmp_eq_t (pc := 35) C 51 dX12_taken_35 (by decide) (by decide) ?_
          refine x_iload_n (pc := 51) C 0 dX12_taken_51 rfl ?_
          refine x_iload_n (pc := 52) C 3 dX12_taken_52 rfl ?_
          refine x_icmp_ne_t (pc := 53) C 67 dX12_taken_53 (by decide) (by decide) ?_
          refine x_bipush (pc := 67) (v := (-13)) C dX12_taken_67 rfl ?_
          exact x_iret (pc := 69) C X dX12_taken_69 (faq (by
                unfold a_taken
                simp only [hod, hk]
                refine (if_neg (by decide)).trans ?_
                refine (if_neg (by rw [h20]; decide)).trans ?_
                exact if_neg (by decide)) h hg)
        · refine x_eq (show nI (vK (sV σ) d) = nI 2 from by rw [hk]) ?_
          refine x_istore_n (pc := 32) (L' := [(3, .int (nI 2)), (0, .ref (t.1 0)), (1, .int (nI d)), (2, .int 4)]) C dX12_taken_32 (by decide) rfl ?_
          refine x_iload_n (pc := 33) C 0 dX12_taken_33 rfl ?_
          refine x_iconst (pc := 34) (v := (-1)) C dX12_taken_34 rfl ?_
          refine x_icmp_eq_f (pc := 35) C 51 dX12_taken_35 (by decide) (by decide) ?_
          refine x_iload_n (pc := 38) C 0 dX12_taken_38 rfl ?_
          refine x_iload_n (pc := 39) C 3 dX12_taken_39 rfl ?_
          refine x_icmp_eq_f (pc := 40) C 51 dX12_taken_40 (by decide) (by decide) ?_
          refine x_iload_n (pc := 43) C 0 dX12_taken_43 rfl ?_
          refine x_callS (pc := 44) C E [.int (nI 2)] [] (c_X12_over t _ (nI 2)) m_X12_over q48_18 rfl (by decide) (Nat.le_of_ble_eq_true rfl) dX12_taken_44 rfl (k_I ?_)
          refine x_eq (show ovF (nI 2) = 0 from by decide) ?_
          refine x_istore_n (pc := 47) (L' := [(3, .int 0), (0, .ref (t.1 0)), (1, .int (nI d)), (2, .int 4)]) C dX12_taken_47 (by decide) rfl ?_
          refine x_goto (pc := 48) C 33 dX12_taken_48 (by decide) ?_
          refine x_iload_n (pc := 33) C 0 dX12_taken_33 rfl ?_
          refine x_iconst (pc := 34) (v := (-1)) C dX12_taken_34 rfl ?_
          refine x_icmp_eq_f (pc := 35) C 51 dX12_taken_35 (by decide) (by decide) ?_
          refine x_iload_n (pc := 38) C 0 dX12_taken_38 rfl ?_
          refine x_iload_n (pc := 39) C 3 dX12_taken_39 rfl ?_
          refine x_icmp_eq_f (pc := 40) C 51 dX12_taken_40 (by decide) (by decide) ?_
          refine x_iload_n (pc := 43) C 0 dX12_taken_43 rfl ?_
          refine x_callS (pc := 44) C E [.int 0] [] (c_X12_over t _ 0) m_X12_over q48_18 rfl (by decide) (Nat.le_of_ble_eq_true rfl) dX12_taken_44 rfl (k_I ?_)
          refine x_eq (show ovF 0 = -1 from by decide) ?_
          refine x_istore_n (pc := 47) (L' := [(3, .int (-1)), (0, .ref (t.1 0)), (1, .int (nI d)), (2, .int 4)]) C dX12_taken_47 (by decide) rfl ?_
          refine x_goto (pc := 48) C 33 dX12_taken_48 (by decide) ?_
          refine x_iload_n (pc := 33) C 0 dX12_taken_33 rfl ?_
          refine x_iconst (pc := 34) (v := (-1)) C dX12_taken_34 rfl ?_
          refine x_icmp_eq_t (pc := 35) C 51 dX12_taken_35 (by decide) (by decide) ?_
          refine x_iload_n (pc := 51) C 0 dX12_taken_51 rfl ?_
          refine x_iload_n (pc := 52) C 3 dX12_taken_52 rfl ?_
          refine x_icmp_ne_t (pc := 53) C 67 dX12_taken_53 (by decide) (by decide) ?_
          refine x_bipush (pc := 67) (v := (-13)) C dX12_taken_67 rfl ?_
          exact x_iret (pc := 69) C X dX12_taken_69 (faq (by
                unfold a_taken
                simp only [hod, hk]
                refine (if_neg (by decide)).trans ?_
                refine (if_neg (by rw [h20]; decide)).trans ?_
                exact if_neg (by decide)) h hg)
        · refine x_eq (show nI (vK (sV σ) d) = nI 3 from by rw [hk]) ?_
          refine x_istore_n (pc := 32) (L' := [(3, .int (nI 3)), (0, .ref (t.1 0)), (1, .int (nI d)), (2, .int 4)]) C dX12_taken_32 (by decide) rfl ?_
          refine x_iload_n (pc := 33) C 0 dX12_taken_33 rfl ?_
          refine x_iconst (pc := 34) (v := (-1)) C dX12_taken_34 rfl ?_
          refine x_icmp_eq_f (pc := 35) C 51 dX12_taken_35 (by decide) (by decide) ?_
          refine x_iload_n (pc := 38) C 0 dX12_taken_38 rfl ?_
          refine x_iload_n (pc := 39) C 3 dX12_taken_39 rfl ?_
          refine x_icmp_eq_f (pc := 40) C 51 dX12_taken_40 (by decide) (by decide) ?_
          refine x_iload_n (pc := 43) C 0 dX12_taken_43 rfl ?_
          refine x_callS (pc := 44) C E [.int (nI 3)] [] (c_X12_over t _ (nI 3)) m_X12_over q48_18 rfl (by decide) (Nat.le_of_ble_eq_true rfl) dX12_taken_44 rfl (k_I ?_)
          refine x_eq (show ovF (nI 3) = 1 from by decide) ?_
          refine x_istore_n (pc := 47) (L' := [(3, .int 1), (0, .ref (t.1 0)), (1, .int (nI d)), (2, .int 4)]) C dX12_taken_47 (by decide) rfl ?_
          refine x_goto (pc := 48) C 33 dX12_taken_48 (by decide) ?_
          refine x_iload_n (pc := 33) C 0 dX12_taken_33 rfl ?_
          refine x_iconst (pc := 34) (v := (-1)) C dX12_taken_34 rfl ?_
          refine x_icmp_eq_f (pc := 35) C 51 dX12_taken_35 (by decide) (by decide) ?_
          refine x_iload_n (pc := 38) C 0 dX12_taken_38 rfl ?_
          refine x_iload_n (pc := 39) C 3 dX12_taken_39 rfl ?_
          refine x_icmp_eq_f (pc := 40) C 51 dX12_taken_40 (by decide) (by decide) ?_
          refine x_iload_n (pc := 43) C 0 dX12_taken_43 rfl ?_
          refine x_callS (pc := 44) C E [.int 1] [] (c_X12_over t _ 1) m_X12_over q48_18 rfl (by decide) (Nat.le_of_ble_eq_true rfl) dX12_taken_44 rfl (k_I ?_)
          refine x_eq (show ovF 1 = 0 from by decide) ?_
          refine x_istore_n (pc := 47) (L' := [(3, .int 0), (0, .ref (t.1 0)), (1, .int (nI d)), (2, .int 4)]) C dX12_taken_47 (by decide) rfl ?_
          refine x_goto (pc := 48) C 33 dX12_taken_48 (by decide) ?_
          refine x_iload_n (pc := 33) C 0 dX12_taken_33 rfl ?_
          refine x_iconst (pc := 34) (v := (-1)) C dX12_taken_34 rfl ?_
          refine x_icmp_eq_f (pc := 35) C 51 dX12_taken_35 (by decide) (by decide) ?_
          refine x_iload_n (pc := 38) C 0 dX12_taken_38 rfl ?_
          refine x_iload_n (pc := 39) C 3 dX12_taken_39 rfl ?_
          refine x_icmp_eq_f (pc := 40) C 51 dX12_taken_40 (by decide) (by decide) ?_
          refine x_iload_n (pc := 43) C 0 dX12_taken_43 rfl ?_
          refine x_callS (pc := 44) C E [.int 0] [] (c_X12_over t _ 0) m_X12_over q48_18 rfl (by decide) (Nat.le_of_ble_eq_true rfl) dX12_taken_44 rfl (k_I ?_)
          refine x_eq (show ovF 0 = -1 from by decide) ?_
          refine x_istore_n (pc := 47) (L' := [(3, .int (-1)), (0, .ref (t.1 0)), (1, .int (nI d)), (2, .int 4)]) C dX12_taken_47 (by decide) rfl ?_
          refine x_goto (pc := 48) C 33 dX12_taken_48 (by decide) ?_
          refine x_iload_n (pc := 33) C 0 dX12_taken_33 rfl ?_
          refine x_iconst (pc := 34) (v := (-1)) C dX12_taken_34 rfl ?_
          refine x_icmp_eq_t (pc := 35) C 51 dX12_taken_35 (by decide) (by decide) ?_
          refine x_iload_n (pc := 51) C 0 dX12_taken_51 rfl ?_
          refine x_iload_n (pc := 52) C 3 dX12_taken_52 rfl ?_
          refine x_icmp_ne_t (pc := 53) C 67 dX12_taken_53 (by decide) (by decide) ?_
          refine x_bipush (pc := 67) (v := (-13)) C dX12_taken_67 rfl ?_
          exact x_iret (pc := 69) C X dX12_taken_69 (faq (by
                unfold a_taken
                simp only [hod, hk]
                refine (if_neg (by decide)).trans ?_
                refine (if_neg (by rw [h20]; decide)).trans ?_
                exact if_neg (by decide)) h hg)
        · refine x_eq (show nI (vK (sV σ) d) = nI 4 from by rw [hk]) ?_
          refine x_istore_n (pc := 32) (L' := [(3, .int (nI 4)), (0, .ref (t.1 0)), (1, .int (nI d)), (2, .int 4)]) C dX12_taken_32 (by decide) rfl ?_
          refine x_iload_n (pc := 33) C 0 dX12_taken_33 rfl ?_
          refine x_iconst (pc := 34) (v := (-1)) C dX12_taken_34 rfl ?_
          refine x_icmp_eq_f (pc := 35) C 51 dX12_taken_35 (by decide) (by decide) ?_
          refine x_iload_n (pc := 38) C 0 dX12_taken_38 rfl ?_
          refine x_iload_n (pc := 39) C 3 dX12_taken_39 rfl ?_
          refine x_icmp_eq_t (pc := 40) C 51 dX12_taken_40 (by decide) (by decide) ?_
          refine x_iload_n (pc := 51) C 0 dX12_taken_51 rfl ?_
          refine x_iload_n (pc := 52) C 3 dX12_taken_52 rfl ?_
          refine x_icmp_ne_f (pc := 53) C 67 dX12_taken_53 (by decide) (by decide) ?_
          refine x_aload_n (pc := 56) C 1 dX12_taken_56 rfl ?_
          refine g_M_rows (pc := 57) C E q11_16 dX12_taken_57 ?_
          refine x_iconst (pc := 60) (v := (nI 2)) C dX12_taken_60 (by decide) ?_
          refine x_iload_n (pc := 61) C 2 dX12_taken_61 rfl ?_
          refine x_imul (pc := 62) C dX12_taken_62 ?_
          refine x_eq (show (nI 2) * (nI d) = nI (2 * d) from pk_mul _ _) ?_
          refine l_Rrows (pc := 63) C E (by omega) dX12_taken_63 ?_
          refine x_eq (show M 5 (2 * d) = vU (sV (σ)) d from (rr_num h (by omega))) ?_
          refine x_goto (pc := 64) C 69 dX12_taken_64 (by decide) ?_
          exact x_iret (pc := 69) C X dX12_taken_69 (faq (by
                unfold a_taken
                simp only [hod, hk]
                refine (if_neg (by decide)).trans ?_
                refine (if_neg (by rw [h20]; decide)).trans ?_
                exact if_pos (by decide)) h hg)
        · refine x_eq (show nI (vK (sV σ) d) = nI 5 from by rw [hk]) ?_
          refine x_istore_n (pc := 32) (L' := [(3, .int (nI 5)), (0, .ref (t.1 0)), (1, .int (nI d)), (2, .int 4)]) C dX12_taken_32 (by decide) rfl ?_
          refine x_iload_n (pc := 33) C 0 dX12_taken_33 rfl ?_
          refine x_iconst (pc := 34) (v := (-1)) C dX12_taken_34 rfl ?_
          refine x_icmp_eq_f (pc := 35) C 51 dX12_taken_35 (by decide) (by decide) ?_
          refine x_iload_n (pc := 38) C 0 dX12_taken_38 rfl ?_
          refine x_iload_n (pc := 39) C 3 dX12_taken_39 rfl ?_
          refine x_icmp_eq_f (pc := 40) C 51 dX12_taken_40 (by decide) (by decide) ?_
          refine x_iload_n (pc := 43) C 0 dX12_taken_43 rfl ?_
          refine x_callS (pc := 44) C E [.int (nI 5)] [] (c_X12_over t _ (nI 5)) m_X12_over q48_18 rfl (by decide) (Nat.le_of_ble_eq_true rfl) dX12_taken_44 rfl (k_I ?_)
          refine x_eq (show ovF (nI 5) = 0 from by decide) ?_
          refine x_istore_n (pc := 47) (L' := [(3, .int 0), (0, .ref (t.1 0)), (1, .int (nI d)), (2, .int 4)]) C dX12_taken_47 (by decide) rfl ?_
          refine x_goto (pc := 48) C 33 dX12_taken_48 (by decide) ?_
          refine x_iload_n (pc := 33) C 0 dX12_taken_33 rfl ?_
          refine x_iconst (pc := 34) (v := (-1)) C dX12_taken_34 rfl ?_
          refine x_icmp_eq_f (pc := 35) C 51 dX12_taken_35 (by decide) (by decide) ?_
          refine x_iload_n (pc := 38) C 0 dX12_taken_38 rfl ?_
          refine x_iload_n (pc := 39) C 3 dX12_taken_39 rfl ?_
          refine x_icmp_eq_f (pc := 40) C 51 dX12_taken_40 (by decide) (by decide) ?_
          refine x_iload_n (pc := 43) C 0 dX12_taken_43 rfl ?_
          refine x_callS (pc := 44) C E [.int 0] [] (c_X12_over t _ 0) m_X12_over q48_18 rfl (by decide) (Nat.le_of_ble_eq_true rfl) dX12_taken_44 rfl (k_I ?_)
          refine x_eq (show ovF 0 = -1 from by decide) ?_
          refine x_istore_n (pc := 47) (L' := [(3, .int (-1)), (0, .ref (t.1 0)), (1, .int (nI d)), (2, .int 4)]) C dX12_taken_47 (by decide) rfl ?_
          refine x_goto (pc := 48) C 33 dX12_taken_48 (by decide) ?_
          refine x_iload_n (pc := 33) C 0 dX12_taken_33 rfl ?_
          refine x_iconst (pc := 34) (v := (-1)) C dX12_taken_34 rfl ?_
          refine x_icmp_eq_t (pc := 35) C 51 dX12_taken_35 (by decide) (by decide) ?_
          refine x_iload_n (pc := 51) C 0 dX12_taken_51 rfl ?_
          refine x_iload_n (pc := 52) C 3 dX12_taken_52 rfl ?_
          refine x_icmp_ne_t (pc := 53) C 67 dX12_taken_53 (by decide) (by decide) ?_
          refine x_bipush (pc := 67) (v := (-13)) C dX12_taken_67 rfl ?_
          exact x_iret (pc := 69) C X dX12_taken_69 (faq (by
                unfold a_taken
                simp only [hod, hk]
                refine (if_neg (by decide)).trans ?_
                refine (if_neg (by rw [h20]; decide)).trans ?_
                exact if_neg (by decide)) h hg)
        
      · obtain rfl : x2 = 5 := i_eq.mpr hk9
        refine x_aload_n (pc := 26) C 0 dX12_taken_26 rfl ?_
        refine g_M_kinds (pc := 27) C E q11_15 dX12_taken_27 ?_
        refine x_iload_n (pc := 30) C 1 dX12_taken_30 rfl ?_
        refine l_Rkinds (pc := 31) C E (by omega) dX12_taken_31 ?_
        refine x_eq (show M 4 d = nI (vK (sV (σ)) d) from (rr_kd h (by omega))) ?_
        rcases (by omega : vK (sV σ) d = 0 ∨ vK (sV σ) d = 1 ∨ vK (sV σ) d = 2 ∨ vK (sV σ) d = 3 ∨ vK (sV σ) d = 4 ∨ vK (sV σ) d = 5) with hk | hk | hk | hk | hk | hk
        · refine x_eq (show nI (vK (sV σ) d) = nI 0 from by rw [hk]) ?_
          refine x_istore_n (pc := 32) (L' := [(3, .int (nI 0)), (0, .ref (t.1 0)), (1, .int (nI d)), (2, .int 5)]) C dX12_taken_32 (by decide) rfl ?_
          refine x_iload_n (pc := 33) C 0 dX12_taken_33 rfl ?_
          refine x_iconst (pc := 34) (v := (-1)) C dX12_taken_34 rfl ?_
          refine x_icmp_eq_f (pc := 35) C 51 dX12_taken_35 (by decide) (by decide) ?_
          refine x_iload_n (pc := 38) C 0 dX12_taken_38 rfl ?_
          refine x_iload_n (pc := 39) C 3 dX12_taken_39 rfl ?_
          refine x_icmp_eq_f (pc := 40) C 51 dX12_taken_40 (by decide) (by decide) ?_
          refine x_iload_n (pc := 43) C 0 dX12_taken_43 rfl ?_
          refine x_callS (pc := 44) C E [.int (nI 0)] [] (c_X12_over t _ (nI 0)) m_X12_over q48_18 rfl (by decide) (Nat.le_of_ble_eq_true rfl) dX12_taken_44 rfl (k_I ?_)
          refine x_eq (show ovF (nI 0) = -1 from by decide) ?_
          refine x_istore_n (pc := 47) (L' := [(3, .int (-1)), (0, .ref (t.1 0)), (1, .int (nI d)), (2, .int 5)]) C dX12_taken_47 (by decide) rfl ?_
          refine x_goto (pc := 48) C 33 dX12_taken_48 (by decide) ?_
          refine x_iload_n (pc := 33) C 0 dX12_taken_33 rfl ?_
          refine x_iconst (pc := 34) (v := (-1)) C dX12_taken_34 rfl ?_
          refine x_icmp_eq_t (pc := 35) C 51 dX12_taken_35 (by decide) (by decide) ?_
          refine x_iload_n (pc := 51) C 0 dX12_taken_51 rfl ?_
          refine x_iload_n (pc := 52) C 3 dX12_taken_52 rfl ?_
          refine x_icmp_ne_t (pc := 53) C 67 dX12_taken_53 (by decide) (by decide) ?_
          refine x_bipush (pc := 67) (v := (-13)) C dX12_taken_67 rfl ?_
          exact x_iret (pc := 69) C X dX12_taken_69 (faq (by
                unfold a_taken
                simp only [hod, hk]
                refine (if_neg (by decide)).trans ?_
                refine (if_neg (by rw [h20]; decide)).trans ?_
                exact if_neg (by decide)) h hg)
        · refine x_eq (show nI (vK (sV σ) d) = nI 1 from by rw [hk]) ?_
          refine x_istore_n (pc := 32) (L' := [(3, .int (nI 1)), (0, .ref (t.1 0)), (1, .int (nI d)), (2, .int 5)]) C dX12_taken_32 (by decide) rfl ?_
          refine x_iload_n (pc := 33) C 0 dX12_taken_33 rfl ?_
          refine x_iconst (pc := 34) (v := (-1)) C dX12_taken_34 rfl ?_
          refine x_icmp_eq_f (pc := 35) C 51 dX12_taken_35 (by decide) (by decide) ?_
          refine x_iload_n (pc := 38) C 0 dX12_taken_38 rfl ?_
          refine x_iload_n (pc := 39) C 3 dX12_taken_39 rfl ?_
          refine x_icmp_eq_f (pc := 40) C 51 dX12_taken_40 (by decide) (by decide) ?_
          refine x_iload_n (pc := 43) C 0 dX12_taken_43 rfl ?_
          refine x_callS (pc := 44) C E [.int (nI 1)] [] (c_X12_over t _ (nI 1)) m_X12_over q48_18 rfl (by decide) (Nat.le_of_ble_eq_true rfl) dX12_taken_44 rfl (k_I ?_)
          refine x_eq (show ovF (nI 1) = 0 from by decide) ?_
          refine x_istore_n (pc := 47) (L' := [(3, .int 0), (0, .ref (t.1 0)), (1, .int (nI d)), (2, .int 5)]) C dX12_taken_47 (by decide) rfl ?_
          refine x_goto (pc := 48) C 33 dX12_taken_48 (by decide) ?_
          refine x_iload_n (pc := 33) C 0 dX12_taken_33 rfl ?_
          refine x_iconst (pc := 34) (v := (-1)) C dX12_taken_34 rfl ?_
          refine x_icmp_eq_f (pc := 35) C 51 dX12_taken_35 (by decide) (by decide) ?_
          refine x_iload_n (pc := 38) C 0 dX12_taken_38 rfl ?_
          refine x_iload_n (pc := 39) C 3 dX12_taken_39 rfl ?_
          refine x_icmp_eq_f (pc := 40) C 51 dX12_taken_40 (by decide) (by decide) ?_
          refine x_iload_n (pc := 43) C 0 dX12_taken_43 rfl ?_
          refine x_callS (pc := 44) C E [.int 0] [] (c_X12_over t _ 0) m_X12_over q48_18 rfl (by decide) (Nat.le_of_ble_eq_true rfl) dX12_taken_44 rfl (k_I ?_)
          refine x_eq (show ovF 0 = -1 from by decide) ?_
          refine x_istore_n (pc := 47) (L' := [(3, .int (-1)), (0, .ref (t.1 0)), (1, .int (nI d)), (2, .int 5)]) C dX12_taken_47 (by decide) rfl ?_
          refine x_goto (pc := 48) C 33 dX12_taken_48 (by decide) ?_
          refine x_iload_n (pc := 33) C 0 dX12_taken_33 rfl ?_
          refine x_iconst (pc := 34) (v := (-1)) C dX12_taken_34 rfl ?_
          refine x_icmp_eq_t (pc := 35) C 51 dX12_taken_35 (by decide) (by decide) ?_
          refine x_iload_n (pc := 51) C 0 dX12_taken_51 rfl ?_
          refine x_iload_n (pc := 52) C 3 dX12_taken_52 rfl ?_
          refine x_icmp_ne_t (pc := 53) C 67 dX12_taken_53 (by decide) (by decide) ?_
          refine x_bipush (pc := 67) (v := (-13)) C dX12_taken_67 rfl ?_
          exact x_iret (pc := 69) C X dX12_taken_69 (faq (by
                unfold a_taken
                simp only [hod, hk]
                refine (if_neg (by decide)).trans ?_
                refine (if_neg (by rw [h20]; decide)).trans ?_
                exact if_neg (by decide)) h hg)
        · refine x_eq (show nI (vK (sV σ) d) = nI 2 from by rw [hk]) ?_
          refine x_istore_n (pc := 32) (L' := [(3, .int (nI 2)), (0, .ref (t.1 0)), (1, .int (nI d)), (2, .int 5)]) C dX12_taken_32 (by decide) rfl ?_
          refine x_iload_n (pc := 33) C 0 dX12_taken_33 rfl ?_
          refine x_iconst (pc := 34) (v := (-1)) C dX12_taken_34 rfl ?_
          refine x_icmp_eq_f (pc := 35) C 51 dX12_taken_35 (by decide) (by decide) ?_
          refine x_iload_n (pc := 38) C 0 dX12_taken_38 rfl ?_
          refine x_iload_n (pc := 39) C 3 dX12_taken_39 rfl ?_
          refine x_icmp_eq_f (pc := 40) C 51 dX12_taken_40 (by decide) (by decide) ?_
          refine x_iload_n (pc := 43) C 0 dX12_taken_43 rfl ?_
          refine x_callS (pc := 44) C E [.int (nI 2)] [] (c_X12_over t _ (nI 2)) m_X12_over q48_18 rfl (by decide) (Nat.le_of_ble_eq_true rfl) dX12_taken_44 rfl (k_I ?_)
          refine x_eq (show ovF (nI 2) = 0 from by decide) ?_
          refine x_istore_n (pc := 47) (L' := [(3, .int 0), (0, .ref (t.1 0)), (1, .int (nI d)), (2, .int 5)]) C dX12_taken_47 (by decide) rfl ?_
          refine x_goto (pc := 48) C 33 dX12_taken_48 (by decide) ?_
          refine x_iload_n (pc := 33) C 0 dX12_taken_33 rfl ?_
          refine x_iconst (pc := 34) (v := (-1)) C dX12_taken_34 rfl ?_
          refine x_icmp_eq_f (pc := 35) C 51 dX12_taken_35 (by decide) (by decide) ?_
          refine x_iload_n (pc := 38) C 0 dX12_taken_38 rfl ?_
          refine x_iload_n (pc := 39) C 3 dX12_taken_39 rfl ?_
          refine x_icmp_eq_f (pc := 40) C 51 dX12_taken_40 (by decide) (by decide) ?_
          refine x_iload_n (pc := 43) C 0 dX12_taken_43 rfl ?_
          refine x_callS (pc := 44) C E [.int 0] [] (c_X12_over t _ 0) m_X12_over q48_18 rfl (by decide) (Nat.le_of_ble_eq_true rfl) dX12_taken_44 rfl (k_I ?_)
          refine x_eq (show ovF 0 = -1 from by decide) ?_
          refine x_istore_n (pc := 47) (L' := [(3, .int (-1)), (0, .ref (t.1 0)), (1, .int (nI d)), (2, .int 5)]) C dX12_taken_47 (by decide) rfl ?_
          refine x_goto (pc := 48) C 33 dX12_taken_48 (by decide) ?_
          refine x_iload_n (pc := 33) C 0 dX12_taken_33 rfl ?_
          refine x_iconst (pc := 34) (v := (-1)) C dX12_taken_34 rfl ?_
          refine x_icmp_eq_t (pc := 35) C 51 dX12_taken_35 (by decide) (by decide) ?_
          refine x_iload_n (pc := 51) C 0 dX12_taken_51 rfl ?_
          refine x_iload_n (pc := 52) C 3 dX12_taken_52 rfl ?_
          refine x_icmp_ne_t (pc := 53) C 67 dX12_taken_53 (by decide) (by decide) ?_
          refine x_bipush (pc := 67) (v := (-13)) C dX12_taken_67 rfl ?_
          exact x_iret (pc := 69) C X dX12_taken_69 (faq (by
                unfold a_taken
                simp only [hod, hk]
                refine (if_neg (by decide)).trans ?_
                refine (if_neg (by rw [h20]; decide)).trans ?_
                exact if_neg (by decide)) h hg)
        · refine x_eq (show nI (vK (sV σ) d) = nI 3 from by rw [hk]) ?_
          refine x_istore_n (pc := 32) (L' := [(3, .int (nI 3)), (0, .ref (t.1 0)), (1, .int (nI d)), (2, .int 5)]) C dX12_taken_32 (by decide) rfl ?_
          refine x_iload_n (pc := 33) C 0 dX12_taken_33 rfl ?_
          refine x_iconst (pc := 34) (v := (-1)) C dX12_taken_34 rfl ?_
          refine x_icmp_eq_f (pc := 35) C 51 dX12_taken_35 (by decide) (by decide) ?_
          refine x_iload_n (pc := 38) C 0 dX12_taken_38 rfl ?_
          refine x_iload_n (pc := 39) C 3 dX12_taken_39 rfl ?_
          refine x_icmp_eq_f (pc := 40) C 51 dX12_taken_40 (by decide) (by decide) ?_
          refine x_iload_n (pc := 43) C 0 dX12_taken_43 rfl ?_
          refine x_callS (pc := 44) C E [.int (nI 3)] [] (c_X12_over t _ (nI 3)) m_X12_over q48_18 rfl (by decide) (Nat.le_of_ble_eq_true rfl) dX12_taken_44 rfl (k_I ?_)
          refine x_eq (show ovF (nI 3) = 1 from by decide) ?_
          refine x_istore_n (pc := 47) (L' := [(3, .int 1), (0, .ref (t.1 0)), (1, .int (nI d)), (2, .int 5)]) C dX12_taken_47 (by decide) rfl ?_
          refine x_goto (pc := 48) C 33 dX12_taken_48 (by decide) ?_
          refine x_iload_n (pc := 33) C 0 dX12_taken_33 rfl ?_
          refine x_iconst (pc := 34) (v := (-1)) C dX12_taken_34 rfl ?_
          refine x_icmp_eq_f (pc := 35) C 51 dX12_taken_35 (by decide) (by decide) ?_
          refine x_iload_n (pc := 38) C 0 dX12_taken_38 rfl ?_
          refine x_iload_n (pc := 39) C 3 dX12_taken_39 rfl ?_
          refine x_icmp_eq_f (pc := 40) C 51 dX12_taken_40 (by decide) (by decide) ?_
          refine x_iload_n (pc := 43) C 0 dX12_taken_43 rfl ?_
          refine x_callS (pc := 44) C E [.int 1] [] (c_X12_over t _ 1) m_X12_over q48_18 rfl (by decide) (Nat.le_of_ble_eq_true rfl) dX12_taken_44 rfl (k_I ?_)
          refine x_eq (show ovF 1 = 0 from by decide) ?_
          refine x_istore_n (pc := 47) (L' := [(3, .int 0), (0, .ref (t.1 0)), (1, .int (nI d)), (2, .int 5)]) C dX12_taken_47 (by decide) rfl ?_
          refine x_goto (pc := 48) C 33 dX12_taken_48 (by decide) ?_
          refine x_iload_n (pc := 33) C 0 dX12_taken_33 rfl ?_
          refine x_iconst (pc := 34) (v := (-1)) C dX12_taken_34 rfl ?_
          refine x_icmp_eq_f (pc := 35) C 51 dX12_taken_35 (by decide) (by decide) ?_
          refine x_iload_n (pc := 38) C 0 dX12_taken_38 rfl ?_
          refine x_iload_n (pc := 39) C 3 dX12_taken_39 rfl ?_
          refine x_icmp_eq_f (pc := 40) C 51 dX12_taken_40 (by decide) (by decide) ?_
          refine x_iload_n (pc := 43) C 0 dX12_taken_43 rfl ?_
          refine x_callS (pc := 44) C E [.int 0] [] (c_X12_over t _ 0) m_X12_over q48_18 rfl (by decide) (Nat.le_of_ble_eq_true rfl) dX12_taken_44 rfl (k_I ?_)
          refine x_eq (show ovF 0 = -1 from by decide) ?_
          refine x_istore_n (pc := 47) (L' := [(3, .int (-1)), (0, .ref (t.1 0)), (1, .int (nI d)), (2, .int 5)]) C dX12_taken_47 (by decide) rfl ?_
          refine x_goto (pc := 48) C 33 dX12_taken_48 (by decide) ?_
          refine x_iload_n (pc := 33) C 0 dX12_taken_33 rfl ?_
          refine x_iconst (pc := 34) (v := (-1)) C dX12_taken_34 rfl ?_
          refine x_icmp_eq_t (pc := 35) C 51 dX12_taken_35 (by decide) (by decide) ?_
          refine x_iload_n (pc := 51) C 0 dX12_taken_51 rfl ?_
          refine x_iload_n (pc := 52) C 3 dX12_taken_52 rfl ?_
          refine x_icmp_ne_t (pc := 53) C 67 dX12_taken_53 (by decide) (by decide) ?_
          refine x_bipush (pc := 67) (v := (-13)) C dX12_taken_67 rfl ?_
          exact x_iret (pc := 69) C X dX12_taken_69 (faq (by
                unfold a_taken
                simp only [hod, hk]
                refine (if_neg (by decide)).trans ?_
                refine (if_neg (by rw [h20]; decide)).trans ?_
                exact if_neg (by decide)) h hg)
        · refine x_eq (show nI (vK (sV σ) d) = nI 4 from by rw [hk]) ?_
          refine x_istore_n (pc := 32) (L' := [(3, .int (nI 4)), (0, .ref (t.1 0)), (1, .int (nI d)), (2, .int 5)]) C dX12_taken_32 (by decide) rfl ?_
          refine x_iload_n (pc := 33) C 0 dX12_taken_33 rfl ?_
          refine x_iconst (pc := 34) (v := (-1)) C dX12_taken_34 rfl ?_
          refine x_icmp_eq_f (pc := 35) C 51 dX12_taken_35 (by decide) (by decide) ?_
          refine x_iload_n (pc := 38) C 0 dX12_taken_38 rfl ?_
          refine x_iload_n (pc := 39) C 3 dX12_taken_39 rfl ?_
          refine x_icmp_eq_f (pc := 40) C 51 dX12_taken_40 (by decide) (by decide) ?_
          refine x_iload_n (pc := 43) C 0 dX12_taken_43 rfl ?_
          refine x_callS (pc := 44) C E [.int (nI 4)] [] (c_X12_over t _ (nI 4)) m_X12_over q48_18 rfl (by decide) (Nat.le_of_ble_eq_true rfl) dX12_taken_44 rfl (k_I ?_)
          refine x_eq (show ovF (nI 4) = 2 from by decide) ?_
          refine x_istore_n (pc := 47) (L' := [(3, .int 2), (0, .ref (t.1 0)), (1, .int (nI d)), (2, .int 5)]) C dX12_taken_47 (by decide) rfl ?_
          refine x_goto (pc := 48) C 33 dX12_taken_48 (by decide) ?_
          refine x_iload_n (pc := 33) C 0 dX12_taken_33 rfl ?_
          refine x_iconst (pc := 34) (v := (-1)) C dX12_taken_34 rfl ?_
          refine x_icmp_eq_f (pc := 35) C 51 dX12_taken_35 (by decide) (by decide) ?_
          refine x_iload_n (pc := 38) C 0 dX12_taken_38 rfl ?_
          refine x_iload_n (pc := 39) C 3 dX12_taken_39 rfl ?_
          refine x_icmp_eq_f (pc := 40) C 51 dX12_taken_40 (by decide) (by decide) ?_
          refine x_iload_n (pc := 43) C 0 dX12_taken_43 rfl ?_
          refine x_callS (pc := 44) C E [.int 2] [] (c_X12_over t _ 2) m_X12_over q48_18 rfl (by decide) (Nat.le_of_ble_eq_true rfl) dX12_taken_44 rfl (k_I ?_)
          refine x_eq (show ovF 2 = 0 from by decide) ?_
          refine x_istore_n (pc := 47) (L' := [(3, .int 0), (0, .ref (t.1 0)), (1, .int (nI d)), (2, .int 5)]) C dX12_taken_47 (by decide) rfl ?_
          refine x_goto (pc := 48) C 33 dX12_taken_48 (by decide) ?_
          refine x_iload_n (pc := 33) C 0 dX12_taken_33 rfl ?_
          refine x_iconst (pc := 34) (v := (-1)) C dX12_taken_34 rfl ?_
          refine x_icmp_eq_f (pc := 35) C 51 dX12_taken_35 (by decide) (by decide) ?_
          refine x_iload_n (pc := 38) C 0 dX12_taken_38 rfl ?_
          refine x_iload_n (pc := 39) C 3 dX12_taken_39 rfl ?_
          refine x_icmp_eq_f (pc := 40) C 51 dX12_taken_40 (by decide) (by decide) ?_
          refine x_iload_n (pc := 43) C 0 dX12_taken_43 rfl ?_
          refine x_callS (pc := 44) C E [.int 0] [] (c_X12_over t _ 0) m_X12_over q48_18 rfl (by decide) (Nat.le_of_ble_eq_true rfl) dX12_taken_44 rfl (k_I ?_)
          refine x_eq (show ovF 0 = -1 from by decide) ?_
          refine x_istore_n (pc := 47) (L' := [(3, .int (-1)), (0, .ref (t.1 0)), (1, .int (nI d)), (2, .int 5)]) C dX12_taken_47 (by decide) rfl ?_
          refine x_goto (pc := 48) C 33 dX12_taken_48 (by decide) ?_
          refine x_iload_n (pc := 33) C 0 dX12_taken_33 rfl ?_
          refine x_iconst (pc := 34) (v := (-1)) C dX12_taken_34 rfl ?_
          refine x_icmp_eq_t (pc := 35) C 51 dX12_taken_35 (by decide) (by decide) ?_
          refine x_iload_n (pc := 51) C 0 dX12_taken_51 rfl ?_
          refine x_iload_n (pc := 52) C 3 dX12_taken_52 rfl ?_
          refine x_icmp_ne_t (pc := 53) C 67 dX12_taken_53 (by decide) (by decide) ?_
          refine x_bipush (pc := 67) (v := (-13)) C dX12_taken_67 rfl ?_
          exact x_iret (pc := 69) C X dX12_taken_69 (faq (by
                unfold a_taken
                simp only [hod, hk]
                refine (if_neg (by decide)).trans ?_
                refine (if_neg (by rw [h20]; decide)).trans ?_
                exact if_neg (by decide)) h hg)
        · refine x_eq (show nI (vK (sV σ) d) = nI 5 from by rw [hk]) ?_
          refine x_istore_n (pc := 32) (L' := [(3, .int (nI 5)), (0, .ref (t.1 0)), (1, .int (nI d)), (2, .int 5)]) C dX12_taken_32 (by decide) rfl ?_
          refine x_iload_n (pc := 33) C 0 dX12_taken_33 rfl ?_
          refine x_iconst (pc := 34) (v := (-1)) C dX12_taken_34 rfl ?_
          refine x_icmp_eq_f (pc := 35) C 51 dX12_taken_35 (by decide) (by decide) ?_
          refine x_iload_n (pc := 38) C 0 dX12_taken_38 rfl ?_
          refine x_iload_n (pc := 39) C 3 dX12_taken_39 rfl ?_
          refine x_icmp_eq_t (pc := 40) C 51 dX12_taken_40 (by decide) (by decide) ?_
          refine x_iload_n (pc := 51) C 0 dX12_taken_51 rfl ?_
          refine x_iload_n (pc := 52) C 3 dX12_taken_52 rfl ?_
          refine x_icmp_ne_f (pc := 53) C 67 dX12_taken_53 (by decide) (by decide) ?_
          refine x_aload_n (pc := 56) C 1 dX12_taken_56 rfl ?_
          refine g_M_rows (pc := 57) C E q11_16 dX12_taken_57 ?_
          refine x_iconst (pc := 60) (v := (nI 2)) C dX12_taken_60 (by decide) ?_
          refine x_iload_n (pc := 61) C 2 dX12_taken_61 rfl ?_
          refine x_imul (pc := 62) C dX12_taken_62 ?_
          refine x_eq (show (nI 2) * (nI d) = nI (2 * d) from pk_mul _ _) ?_
          refine l_Rrows (pc := 63) C E (by omega) dX12_taken_63 ?_
          refine x_eq (show M 5 (2 * d) = vU (sV (σ)) d from (rr_num h (by omega))) ?_
          refine x_goto (pc := 64) C 69 dX12_taken_64 (by decide) ?_
          exact x_iret (pc := 69) C X dX12_taken_69 (faq (by
                unfold a_taken
                simp only [hod, hk]
                refine (if_neg (by decide)).trans ?_
                refine (if_neg (by rw [h20]; decide)).trans ?_
                exact if_pos (by decide)) h hg)
        
      
    · refine x_bipush (pc := 23) (v := (-11)) C dX12_taken_23 rfl ?_
      exact x_iret (pc := 25) C X dX12_taken_25 (faq (by
            unfold a_taken
            repeat (first | with_reducible rfl | (refine (if_pos ?_).trans ?_; ((try simp only [inB_t, inB_f, i_lt, i_le, i_eq, ne_eq, Bool.not_eq_true, Bool.not_eq_false, hpB, decide_eq_true_eq, decide_eq_false_iff_not, li_0, li_1, li_2, li_3, li_4, li_5, li_6, li_7, li_8, li_9, li_10, li_20, li_40, li_99, li_100, li_255, li_899, li_999, li_m1, li_m2, li_m3, li_m4, li_m11, li_m12, li_m13, li_m14, li_m100] at h9 h20 ⊢) <;> omega)) | (refine (if_neg ?_).trans ?_; ((try simp only [inB_t, inB_f, i_lt, i_le, i_eq, ne_eq, Bool.not_eq_true, Bool.not_eq_false, hpB, decide_eq_true_eq, decide_eq_false_iff_not, li_0, li_1, li_2, li_3, li_4, li_5, li_6, li_7, li_8, li_9, li_10, li_20, li_40, li_99, li_100, li_255, li_899, li_999, li_m1, li_m2, li_m3, li_m4, li_m11, li_m12, li_m13, li_m14, li_m100] at h9 h20 ⊢) <;> omega)) | fail)
            all_goals (first | with_reducible rfl | (exfalso; ((try simp only [inB_t, inB_f, i_lt, i_le, i_eq, ne_eq, Bool.not_eq_true, Bool.not_eq_false, hpB, decide_eq_true_eq, decide_eq_false_iff_not, li_0, li_1, li_2, li_3, li_4, li_5, li_6, li_7, li_8, li_9, li_10, li_20, li_40, li_99, li_100, li_255, li_899, li_999, li_m1, li_m2, li_m3, li_m4, li_m11, li_m12, li_m13, li_m14, li_m100] at h9 h20 ⊢) <;> omega)))) h hg)
  · refine x_bipush (pc := 12) (v := (-2)) C dX12_taken_12 rfl ?_
    exact x_iret (pc := 14) C X dX12_taken_14 (faq (by
          unfold a_taken
          repeat (first | with_reducible rfl | (refine (if_pos ?_).trans ?_; ((try simp only [inB_t, inB_f, i_lt, i_le, i_eq, ne_eq, Bool.not_eq_true, Bool.not_eq_false, hpB, decide_eq_true_eq, decide_eq_false_iff_not, li_0, li_1, li_2, li_3, li_4, li_5, li_6, li_7, li_8, li_9, li_10, li_20, li_40, li_99, li_100, li_255, li_899, li_999, li_m1, li_m2, li_m3, li_m4, li_m11, li_m12, li_m13, li_m14, li_m100] at h9 ⊢) <;> omega)) | (refine (if_neg ?_).trans ?_; ((try simp only [inB_t, inB_f, i_lt, i_le, i_eq, ne_eq, Bool.not_eq_true, Bool.not_eq_false, hpB, decide_eq_true_eq, decide_eq_false_iff_not, li_0, li_1, li_2, li_3, li_4, li_5, li_6, li_7, li_8, li_9, li_10, li_20, li_40, li_99, li_100, li_255, li_899, li_999, li_m1, li_m2, li_m3, li_m4, li_m11, li_m12, li_m13, li_m14, li_m100] at h9 ⊢) <;> omega)) | fail)
          all_goals (first | with_reducible rfl | (exfalso; ((try simp only [inB_t, inB_f, i_lt, i_le, i_eq, ne_eq, Bool.not_eq_true, Bool.not_eq_false, hpB, decide_eq_true_eq, decide_eq_false_iff_not, li_0, li_1, li_2, li_3, li_4, li_5, li_6, li_7, li_8, li_9, li_10, li_20, li_40, li_99, li_100, li_255, li_899, li_999, li_m1, li_m2, li_m3, li_m4, li_m11, li_m12, li_m13, li_m14, li_m100] at h9 ⊢) <;> omega)))) h hg)

theorem rr_cellr {σ : SV} {M : MM} (h : RR σ M) {s i : Nat} (hs : s < 4) (hss : (sH σ s).1 ≠ -1) (hi : i < (sH σ s).2.1) (x : Int32) : RR (setH σ s ((sH σ s).1, (sH σ s).2.1, fun k => if k = i then x else (sH σ s).2.2 k)) (mu M 15 (40 * s + i) x) := by
  have h40 := h.1.2.2.2.2 s hs
  refine rr_sheet h hs ⟨?_, fun _ => ⟨?_, ?_, fun k hk => ?_⟩⟩ h40 (fun a b _ h15 _ => by rw [mu_at, if_neg (by omega)])
  · rw [mu_n _ _ _ _ (by decide)]; exact rr_si h hs
  · rw [mu_n _ _ _ _ (by decide)]; exact rr_so h hs hss
  · rw [mu_n _ _ _ _ (by decide)]; exact rr_sz h hs hss
  · have hk' : k < (sH σ s).2.1 := hk
    show _ = if k = i then x else (sH σ s).2.2 k
    by_cases g : k = i
    · subst g; rw [mu_s, if_pos rfl]
    · rw [mu_k _ _ _ _ (by omega), if_neg g]; exact rr_it h hs hss hk' 
set_option maxRecDepth 100000 in
set_option maxHeartbeats 800000 in
theorem c_X12_cell (t : CT) {σ : SV} {M : MM} (h : RR σ M) (hg : M 0 28 = 0) (x1 x2 x3 : Int32)  : XMet (wR t) yX12_cell cX12_cell 4 (some .int) 3 [.ref (t.1 0), .int x1, .int x2, .int x3] M (oQ (o_cell σ x1 x2 x3)) := by
  refine x_met RX12 (by decide) rfl (Nat.le_of_ble_eq_true rfl) (fun κ C X E => ?_)
  refine x_L (L' := [(0, .ref (t.1 0)), (1, .int x1), (2, .int x2), (3, .int x3)]) rfl ?_
  have hn6 := rr_n6 h
  have hN6 := h.1.1
  have hq := rr_q h
  have hB := h.1.2.1
  refine x_iload_n (pc := 0) C 1 dX12_cell_0 rfl ?_
  refine x_callS (pc := 1) C E [.int x1] [] (c_X12_isSheet t _ _) m_X12_isSheet q40_18 rfl (by decide) (Nat.le_of_ble_eq_true rfl) dX12_cell_1 rfl (k_I ?_)
  refine x_ifb_ne (pc := 4) C 10 dX12_cell_4 (by decide) (fun h4 => ?_) (fun h4 => ?_)
  · obtain ⟨s, hs, es⟩ := inB_of h4 (by omega)
    have hts := nI_toInt (n := s) (by omega)
    have hos := oN_nI (n := s) (by omega)
    subst es
    refine x_aload_n (pc := 10) C 0 dX12_cell_10 rfl ?_
    refine g_M_isThere (pc := 11) C E q12_1 dX12_cell_11 ?_
    refine x_iload_n (pc := 14) C 1 dX12_cell_14 rfl ?_
    refine l_RisThere (pc := 15) C E (by omega) dX12_cell_15 ?_
    refine x_eq (show M 12 s = b2i (!decide ((sH (σ) s).1 = -1)) from (rr_si h (by omega))) ?_
    refine x_ifb_ne (pc := 16) C 22 dX12_cell_16 (by decide) (fun h16 => ?_) (fun h16 => ?_)
    · have hss : (sH σ s).1 ≠ -1 := fun e => by rw [decide_eq_true e] at h16; exact absurd h16 (by decide)
      have h40s := (h.1.2.2.2.2 s hs).1
      refine x_iload_n (pc := 22) C 2 dX12_cell_22 rfl ?_
      refine x_i2l (pc := 23) C dX12_cell_23 ?_
      refine x_lconst (pc := 24) (v := 0) C dX12_cell_24 rfl ?_
      refine x_aload_n (pc := 25) C 0 dX12_cell_25 rfl ?_
      refine g_M_sheetSize (pc := 26) C E q12_3 dX12_cell_26 ?_
      refine x_iload_n (pc := 29) C 1 dX12_cell_29 rfl ?_
      refine l_RsheetSize (pc := 30) C E (by omega) dX12_cell_30 ?_
      refine x_eq (show M 14 s = nI (sH (σ) s).2.1 from (rr_sz h (by omega) hss)) ?_
      refine x_iconst (pc := 31) (v := 1) C dX12_cell_31 rfl ?_
      refine x_isub (pc := 32) C dX12_cell_32 ?_
      refine x_i2l (pc := 33) C dX12_cell_33 ?_
      refine x_callS (pc := 34) C E [.long (Int32.toInt64 x2), .long 0, .long (Int32.toInt64 ((nI (sH (σ) s).2.1) - 1))] [] (c_X12_inB t _ x2 (n := (sH σ s).2.1) (by decide) (by rw [Int32.toInt_toInt64, nsub_toInt (by omega) (by decide)]; rfl)) m_X12_in q13_6 rfl (by decide) (Nat.le_of_ble_eq_true rfl) dX12_cell_34 rfl (k_I ?_)
      refine x_ifb_ne (pc := 37) C 43 dX12_cell_37 (by decide) (fun h37 => ?_) (fun h37 => ?_)
      · obtain ⟨i, hi, ei⟩ := inB_of h37 (by omega)
        have hti := nI_toInt (n := i) (by omega)
        have hoi := oN_nI (n := i) (by omega)
        subst ei
        refine x_aload_n (pc := 43) C 0 dX12_cell_43 rfl ?_
        refine g_M_items (pc := 44) C E q12_4 dX12_cell_44 ?_
        refine x_bipush (pc := 47) (v := (nI 40)) C dX12_cell_47 (by decide) ?_
        refine x_iload_n (pc := 49) C 1 dX12_cell_49 rfl ?_
        refine x_imul (pc := 50) C dX12_cell_50 ?_
        refine x_eq (show (nI 40) * (nI s) = nI (40 * s) from pk_mul _ _) ?_
        refine x_iload_n (pc := 51) C 2 dX12_cell_51 rfl ?_
        refine x_iadd (pc := 52) C dX12_cell_52 ?_
        refine x_eq (show (nI (40 * s)) + (nI i) = nI (40 * s + i) from nI_add _ _) ?_
        refine x_aload_n (pc := 53) C 0 dX12_cell_53 rfl ?_
        refine g_M_sorts (pc := 54) C E q12_2 dX12_cell_54 ?_
        refine x_iload_n (pc := 57) C 1 dX12_cell_57 rfl ?_
        refine l_Rsorts (pc := 58) C E (by omega) dX12_cell_58 ?_
        refine x_eq (show M 13 s = (sH (σ) s).1 from (rr_so h (by omega) hss)) ?_
        refine x_if_ne (pc := 59) C 67 dX12_cell_59 (by decide) (fun h59 => ?_) (fun h59 => ?_)
        · refine x_aload_n (pc := 67) C 0 dX12_cell_67 rfl ?_
          refine g_M_sorts (pc := 68) C E q12_2 dX12_cell_68 ?_
          refine x_iload_n (pc := 71) C 1 dX12_cell_71 rfl ?_
          refine l_Rsorts (pc := 72) C E (by omega) dX12_cell_72 ?_
          refine x_eq (show M 13 s = (sH (σ) s).1 from (rr_so h (by omega) hss)) ?_
          refine x_iconst (pc := 73) (v := 1) C dX12_cell_73 rfl ?_
          refine x_icmp_ne (pc := 74) C 82 dX12_cell_74 (by decide) (fun h74 => ?_) (fun h74 => ?_)
          · refine x_iload_n (pc := 82) C 3 dX12_cell_82 rfl ?_
            refine x_eq (show x3 = shV (sH σ s).1 x3 from (by unfold shV; rw [if_neg h59, if_neg h74])) ?_
            refine s_Ritems (pc := 83) C E (by omega) dX12_cell_83 ?_
            refine x_iconst (pc := 84) (v := 1) C dX12_cell_84 rfl ?_
            exact x_iret (pc := 85) C X dX12_cell_85 (foq (by
                  unfold o_cell
                  simp only [hos, hoi]
                  refine (if_neg (by rw [h4]; decide)).trans ?_
                  refine (if_neg hss).trans ?_
                  exact if_neg (by rw [h37]; decide)) (rr_cellr h hs hss hi _) ((congrFun (mu_n _ _ _ _ (by decide)) _).trans hg))
          · refine x_iload_n (pc := 77) C 3 dX12_cell_77 rfl ?_
            refine x_i2s (pc := 78) C dX12_cell_78 ?_
            refine x_goto (pc := 79) C 83 dX12_cell_79 (by decide) ?_
            refine x_eq (show (Int32.toInt16 x3).toInt32 = shV (sH σ s).1 x3 from (by unfold shV; rw [if_neg h59, if_pos h74])) ?_
            refine s_Ritems (pc := 83) C E (by omega) dX12_cell_83 ?_
            refine x_iconst (pc := 84) (v := 1) C dX12_cell_84 rfl ?_
            exact x_iret (pc := 85) C X dX12_cell_85 (foq (by
                  unfold o_cell
                  simp only [hos, hoi]
                  refine (if_neg (by rw [h4]; decide)).trans ?_
                  refine (if_neg hss).trans ?_
                  exact if_neg (by rw [h37]; decide)) (rr_cellr h hs hss hi _) ((congrFun (mu_n _ _ _ _ (by decide)) _).trans hg))
        · refine x_iload_n (pc := 62) C 3 dX12_cell_62 rfl ?_
          refine x_i2b (pc := 63) C dX12_cell_63 ?_
          refine x_goto (pc := 64) C 83 dX12_cell_64 (by decide) ?_
          refine x_eq (show (Int32.toInt8 x3).toInt32 = shV (sH σ s).1 x3 from (by unfold shV; rw [if_pos h59])) ?_
          refine s_Ritems (pc := 83) C E (by omega) dX12_cell_83 ?_
          refine x_iconst (pc := 84) (v := 1) C dX12_cell_84 rfl ?_
          exact x_iret (pc := 85) C X dX12_cell_85 (foq (by
                unfold o_cell
                simp only [hos, hoi]
                refine (if_neg (by rw [h4]; decide)).trans ?_
                refine (if_neg hss).trans ?_
                exact if_neg (by rw [h37]; decide)) (rr_cellr h hs hss hi _) ((congrFun (mu_n _ _ _ _ (by decide)) _).trans hg))
      · refine x_bipush (pc := 40) (v := (-12)) C dX12_cell_40 rfl ?_
        exact x_iret (pc := 42) C X dX12_cell_42 (foq (by
              unfold o_cell
              simp only [hos]
              refine (if_neg (by rw [h4]; decide)).trans ?_
              refine (if_neg hss).trans ?_
              exact if_pos h37) h hg)
    · have hns : (sH σ s).1 = -1 := (by
        by_cases e : (sH σ s).1 = -1
        · exact e
        · rw [decide_eq_false e] at h16; exact absurd h16 (by decide))
      refine x_bipush (pc := 19) (v := (-11)) C dX12_cell_19 rfl ?_
      exact x_iret (pc := 21) C X dX12_cell_21 (foq (by
            unfold o_cell
            simp only [hos, hos, hns]
            repeat (first | with_reducible rfl | (refine (if_pos ?_).trans ?_; ((try simp only [inB_t, inB_f, i_lt, i_le, i_eq, ne_eq, Bool.not_eq_true, Bool.not_eq_false, hpB, decide_eq_true_eq, decide_eq_false_iff_not, li_0, li_1, li_2, li_3, li_4, li_5, li_6, li_7, li_8, li_9, li_10, li_20, li_40, li_99, li_100, li_255, li_899, li_999, li_m1, li_m2, li_m3, li_m4, li_m11, li_m12, li_m13, li_m14, li_m100] at h4 hts h16 ⊢) <;> omega)) | (refine (if_neg ?_).trans ?_; ((try simp only [inB_t, inB_f, i_lt, i_le, i_eq, ne_eq, Bool.not_eq_true, Bool.not_eq_false, hpB, decide_eq_true_eq, decide_eq_false_iff_not, li_0, li_1, li_2, li_3, li_4, li_5, li_6, li_7, li_8, li_9, li_10, li_20, li_40, li_99, li_100, li_255, li_899, li_999, li_m1, li_m2, li_m3, li_m4, li_m11, li_m12, li_m13, li_m14, li_m100] at h4 hts h16 ⊢) <;> omega)) | fail)
            all_goals (first | with_reducible rfl | (exfalso; ((try simp only [inB_t, inB_f, i_lt, i_le, i_eq, ne_eq, Bool.not_eq_true, Bool.not_eq_false, hpB, decide_eq_true_eq, decide_eq_false_iff_not, li_0, li_1, li_2, li_3, li_4, li_5, li_6, li_7, li_8, li_9, li_10, li_20, li_40, li_99, li_100, li_255, li_899, li_999, li_m1, li_m2, li_m3, li_m4, li_m11, li_m12, li_m13, li_m14, li_m100] at h4 hts h16 ⊢) <;> omega)))) h hg)
  · refine x_bipush (pc := 7) (v := (-2)) C dX12_cell_7 rfl ?_
    exact x_iret (pc := 9) C X dX12_cell_9 (foq (by
          unfold o_cell
          repeat (first | with_reducible rfl | (refine (if_pos ?_).trans ?_; ((try simp only [inB_t, inB_f, i_lt, i_le, i_eq, ne_eq, Bool.not_eq_true, Bool.not_eq_false, hpB, decide_eq_true_eq, decide_eq_false_iff_not, li_0, li_1, li_2, li_3, li_4, li_5, li_6, li_7, li_8, li_9, li_10, li_20, li_40, li_99, li_100, li_255, li_899, li_999, li_m1, li_m2, li_m3, li_m4, li_m11, li_m12, li_m13, li_m14, li_m100] at h4 ⊢) <;> omega)) | (refine (if_neg ?_).trans ?_; ((try simp only [inB_t, inB_f, i_lt, i_le, i_eq, ne_eq, Bool.not_eq_true, Bool.not_eq_false, hpB, decide_eq_true_eq, decide_eq_false_iff_not, li_0, li_1, li_2, li_3, li_4, li_5, li_6, li_7, li_8, li_9, li_10, li_20, li_40, li_99, li_100, li_255, li_899, li_999, li_m1, li_m2, li_m3, li_m4, li_m11, li_m12, li_m13, li_m14, li_m100] at h4 ⊢) <;> omega)) | fail)
          all_goals (first | with_reducible rfl | (exfalso; ((try simp only [inB_t, inB_f, i_lt, i_le, i_eq, ne_eq, Bool.not_eq_true, Bool.not_eq_false, hpB, decide_eq_true_eq, decide_eq_false_iff_not, li_0, li_1, li_2, li_3, li_4, li_5, li_6, li_7, li_8, li_9, li_10, li_20, li_40, li_99, li_100, li_255, li_899, li_999, li_m1, li_m2, li_m3, li_m4, li_m11, li_m12, li_m13, li_m14, li_m100] at h4 ⊢) <;> omega)))) h hg)

def ShR (s j : Nat) (A B : MM) : Prop := (∀ q, q < j → B 15 (40 * s + q) = 0) ∧ ∀ a b, (a ≠ 15 ∨ b < 40 * s ∨ 40 * s + 40 ≤ b) → B a b = A a b
theorem ShR_S {s j : Nat} {A B : MM} (hj : j < 40) (e : ShR s j A B) : ShR s (j + 1) A (mu B 15 (40 * s + j) 0) := by
  refine ⟨fun q hq => ?_, fun a b g => ?_⟩
  · by_cases k : q = j
    · subst k; exact mu_s _ _ _ _
    · rw [mu_k _ _ _ _ (by omega)]; exact e.1 q (by omega)
  · rw [mu_at, if_neg (by omega)]; exact e.2 a b g
theorem rr_sheet2 {σ : SV} {M B : MM} (h : RR σ M) {s m : Nat} (hs : s < 4) (hm : m ≤ 40) {x : Int32} (h0 : 0 ≤ x.toInt) (h2 : x.toInt ≤ 2) (e : ShR s m (mu (mu (mu M 12 s 1) 13 s x) 14 s (nI m)) B) : RR (setH σ s (x, m, fun _ => 0)) B := by
  have hx : x ≠ -1 := fun g => by rw [g] at h0; exact absurd h0 (by decide)
  refine rr_sheet h hs ⟨?_, fun _ => ⟨?_, ?_, fun k hk => e.1 k hk⟩⟩ ⟨hm, (by show -1 ≤ x.toInt; omega), h2⟩ (fun a b g h15 _ => ?_)
  · rw [e.2 _ _ (by omega), mu_n _ _ _ _ (by decide), mu_n _ _ _ _ (by decide), mu_s]
    show (1 : Int32) = b2i (!decide (x = -1))
    rw [decide_eq_false hx]; rfl
  · rw [e.2 _ _ (by omega), mu_n _ _ _ _ (by decide), mu_s]
  · rw [e.2 _ _ (by omega), mu_s]
  · rw [e.2 _ _ (by omega), mu_at, if_neg (by omega), mu_at, if_neg (by omega), mu_at, if_neg (by omega)]
theorem rr_sheet0 {σ : SV} {M : MM} (h : RR σ M) {s : Nat} (hs : s < 4) (x y : Int32) : RR (setH σ s (-1, 0, fun _ => 0)) (mu (mu (mu M 12 s 0) 13 s x) 14 s y) := by
  refine rr_sheet h hs ⟨?_, fun hn => absurd rfl hn⟩ ⟨by decide, by decide, by decide⟩ (fun a b g h15 _ => ?_)
  · rw [mu_n _ _ _ _ (by decide), mu_n _ _ _ _ (by decide), mu_s]; rfl
  · rw [mu_at, if_neg (by omega), mu_at, if_neg (by omega), mu_at, if_neg (by omega)]
set_option maxRecDepth 100000 in
set_option maxHeartbeats 800000 in
theorem c_X12_sheet (t : CT) {σ : SV} {M : MM} (h : RR σ M) (hg : M 0 28 = 0) (x1 x2 x3 : Int32)  : XMet (wR t) yX12_sheet cX12_sheet 5 (some .int) 3 [.ref (t.1 0), .int x1, .int x2, .int x3] M (oQ (o_sheet σ x1 x2 x3)) := by
  refine x_met RX12 (by decide) rfl (Nat.le_of_ble_eq_true rfl) (fun κ C X E => ?_)
  refine x_L (L' := [(0, .ref (t.1 0)), (1, .int x1), (2, .int x2), (3, .int x3)]) rfl ?_
  have hn6 := rr_n6 h
  have hN6 := h.1.1
  have hq := rr_q h
  have hB := h.1.2.1
  refine x_iload_n (pc := 0) C 1 dX12_sheet_0 rfl ?_
  refine x_callS (pc := 1) C E [.int x1] [] (c_X12_isSheet t _ _) m_X12_isSheet q40_18 rfl (by decide) (Nat.le_of_ble_eq_true rfl) dX12_sheet_1 rfl (k_I ?_)
  refine x_ifb_eq (pc := 4) C 31 dX12_sheet_4 (by decide) (fun h4 => ?_) (fun h4 => ?_)
  · refine x_bipush (pc := 31) (v := (-2)) C dX12_sheet_31 rfl ?_
    exact x_iret (pc := 33) C X dX12_sheet_33 (foq (by
          unfold o_sheet
          repeat (first | with_reducible rfl | (refine (if_pos ?_).trans ?_; ((try simp only [inB_t, inB_f, i_lt, i_le, i_eq, ne_eq, Bool.not_eq_true, Bool.not_eq_false, hpB, decide_eq_true_eq, decide_eq_false_iff_not, li_0, li_1, li_2, li_3, li_4, li_5, li_6, li_7, li_8, li_9, li_10, li_20, li_40, li_99, li_100, li_255, li_899, li_999, li_m1, li_m2, li_m3, li_m4, li_m11, li_m12, li_m13, li_m14, li_m100] at h4 ⊢) <;> omega)) | (refine (if_neg ?_).trans ?_; ((try simp only [inB_t, inB_f, i_lt, i_le, i_eq, ne_eq, Bool.not_eq_true, Bool.not_eq_false, hpB, decide_eq_true_eq, decide_eq_false_iff_not, li_0, li_1, li_2, li_3, li_4, li_5, li_6, li_7, li_8, li_9, li_10, li_20, li_40, li_99, li_100, li_255, li_899, li_999, li_m1, li_m2, li_m3, li_m4, li_m11, li_m12, li_m13, li_m14, li_m100] at h4 ⊢) <;> omega)) | fail)
          all_goals (first | with_reducible rfl | (exfalso; ((try simp only [inB_t, inB_f, i_lt, i_le, i_eq, ne_eq, Bool.not_eq_true, Bool.not_eq_false, hpB, decide_eq_true_eq, decide_eq_false_iff_not, li_0, li_1, li_2, li_3, li_4, li_5, li_6, li_7, li_8, li_9, li_10, li_20, li_40, li_99, li_100, li_255, li_899, li_999, li_m1, li_m2, li_m3, li_m4, li_m11, li_m12, li_m13, li_m14, li_m100] at h4 ⊢) <;> omega)))) h hg)
  · refine x_iload_n (pc := 7) C 2 dX12_sheet_7 rfl ?_
    refine x_i2l (pc := 8) C dX12_sheet_8 ?_
    refine x_ldc2 (pc := 9) (v := (-1)) C q43_19 dX12_sheet_9 ?_
    refine x_ldc2 (pc := 12) (v := 2) C q13_3 dX12_sheet_12 ?_
    refine x_callS (pc := 15) C E [.long (Int32.toInt64 x2), .long (-1), .long 2] [] (c_X12_in t _ x2 (A := -1) (B := 2) (by decide) (by decide)) m_X12_in q13_6 rfl (by decide) (Nat.le_of_ble_eq_true rfl) dX12_sheet_15 rfl (k_I ?_)
    refine x_ifb_eq (pc := 18) C 31 dX12_sheet_18 (by decide) (fun h18 => ?_) (fun h18 => ?_)
    · refine x_bipush (pc := 31) (v := (-2)) C dX12_sheet_31 rfl ?_
      exact x_iret (pc := 33) C X dX12_sheet_33 (foq (by
            unfold o_sheet
            repeat (first | with_reducible rfl | (refine (if_pos ?_).trans ?_; ((try simp only [inB_t, inB_f, i_lt, i_le, i_eq, ne_eq, Bool.not_eq_true, Bool.not_eq_false, hpB, decide_eq_true_eq, decide_eq_false_iff_not, li_0, li_1, li_2, li_3, li_4, li_5, li_6, li_7, li_8, li_9, li_10, li_20, li_40, li_99, li_100, li_255, li_899, li_999, li_m1, li_m2, li_m3, li_m4, li_m11, li_m12, li_m13, li_m14, li_m100] at h4 h18 ⊢) <;> omega)) | (refine (if_neg ?_).trans ?_; ((try simp only [inB_t, inB_f, i_lt, i_le, i_eq, ne_eq, Bool.not_eq_true, Bool.not_eq_false, hpB, decide_eq_true_eq, decide_eq_false_iff_not, li_0, li_1, li_2, li_3, li_4, li_5, li_6, li_7, li_8, li_9, li_10, li_20, li_40, li_99, li_100, li_255, li_899, li_999, li_m1, li_m2, li_m3, li_m4, li_m11, li_m12, li_m13, li_m14, li_m100] at h4 h18 ⊢) <;> omega)) | fail)
            all_goals (first | with_reducible rfl | (exfalso; ((try simp only [inB_t, inB_f, i_lt, i_le, i_eq, ne_eq, Bool.not_eq_true, Bool.not_eq_false, hpB, decide_eq_true_eq, decide_eq_false_iff_not, li_0, li_1, li_2, li_3, li_4, li_5, li_6, li_7, li_8, li_9, li_10, li_20, li_40, li_99, li_100, li_255, li_899, li_999, li_m1, li_m2, li_m3, li_m4, li_m11, li_m12, li_m13, li_m14, li_m100] at h4 h18 ⊢) <;> omega)))) h hg)
    · obtain ⟨s, hs, es⟩ := inB_of h4 (by omega)
      have hts := nI_toInt (n := s) (by omega)
      have hos := oN_nI (n := s) (by omega)
      subst es
      refine x_iload_n (pc := 21) C 2 dX12_sheet_21 rfl ?_
      refine x_if_lt (pc := 22) C 34 dX12_sheet_22 (by decide) (fun h22 => ?_) (fun h22 => ?_)
      · have hx1 : x2 = -1 := i_eq.mpr (by ((try simp only [inB_t, inB_f, i_lt, i_le, i_eq, ne_eq, Bool.not_eq_true, Bool.not_eq_false, hpB, decide_eq_true_eq, decide_eq_false_iff_not, li_0, li_1, li_2, li_3, li_4, li_5, li_6, li_7, li_8, li_9, li_10, li_20, li_40, li_99, li_100, li_255, li_899, li_999, li_m1, li_m2, li_m3, li_m4, li_m11, li_m12, li_m13, li_m14, li_m100] at h4 h18 hts h22 ⊢) <;> omega))
        refine x_iload_n (pc := 34) C 2 dX12_sheet_34 rfl ?_
        refine x_if_lt_t (pc := 35) C 45 dX12_sheet_35 (by decide) h22 ?_
        refine x_aload_n (pc := 45) C 0 dX12_sheet_45 rfl ?_
        refine g_M_isThere (pc := 46) C E q12_1 dX12_sheet_46 ?_
        refine x_iload_n (pc := 49) C 1 dX12_sheet_49 rfl ?_
        refine x_iload_n (pc := 50) C 2 dX12_sheet_50 rfl ?_
        refine x_if_lt_t (pc := 51) C 58 dX12_sheet_51 (by decide) h22 ?_
        refine x_iconst (pc := 58) (v := 0) C dX12_sheet_58 rfl ?_
        refine s_RisThere (pc := 59) C E (by omega) rfl dX12_sheet_59 ?_
        refine x_aload_n (pc := 60) C 0 dX12_sheet_60 rfl ?_
        refine g_M_sorts (pc := 61) C E q12_2 dX12_sheet_61 ?_
        refine x_iload_n (pc := 64) C 1 dX12_sheet_64 rfl ?_
        refine x_iload_n (pc := 65) C 2 dX12_sheet_65 rfl ?_
        refine s_Rsorts (pc := 66) C E (by omega) dX12_sheet_66 ?_
        refine x_aload_n (pc := 67) C 0 dX12_sheet_67 rfl ?_
        refine g_M_sheetSize (pc := 68) C E q12_3 dX12_sheet_68 ?_
        refine x_iload_n (pc := 71) C 1 dX12_sheet_71 rfl ?_
        refine x_iload_n (pc := 72) C 3 dX12_sheet_72 rfl ?_
        refine s_RsheetSize (pc := 73) C E (by omega) dX12_sheet_73 ?_
        refine x_iconst (pc := 74) (v := 0) C dX12_sheet_74 rfl ?_
        refine x_istore (pc := 75) (L' := [(4, .int 0), (0, .ref (t.1 0)), (1, .int (nI s)), (2, .int x2), (3, .int x3)]) C dX12_sheet_75 (by decide) rfl ?_
        refine x_iload (pc := 77) C 0 dX12_sheet_77 rfl ?_
        refine x_iload_n (pc := 79) C 4 dX12_sheet_79 rfl ?_
        refine x_icmp_ge (pc := 80) C 106 dX12_sheet_80 (by decide) (fun h80 => ?_) (fun h80 => ?_)
        · refine x_iconst (pc := 106) (v := 1) C dX12_sheet_106 rfl ?_
          exact x_iret (pc := 107) C X dX12_sheet_107 (foq (by
                unfold o_sheet
                simp only [hos, hos]
                repeat (first | with_reducible rfl | (refine (if_pos ?_).trans ?_; ((try simp only [inB_t, inB_f, i_lt, i_le, i_eq, ne_eq, Bool.not_eq_true, Bool.not_eq_false, hpB, decide_eq_true_eq, decide_eq_false_iff_not, li_0, li_1, li_2, li_3, li_4, li_5, li_6, li_7, li_8, li_9, li_10, li_20, li_40, li_99, li_100, li_255, li_899, li_999, li_m1, li_m2, li_m3, li_m4, li_m11, li_m12, li_m13, li_m14, li_m100] at h4 h18 hts h22 h80 ⊢) <;> omega)) | (refine (if_neg ?_).trans ?_; ((try simp only [inB_t, inB_f, i_lt, i_le, i_eq, ne_eq, Bool.not_eq_true, Bool.not_eq_false, hpB, decide_eq_true_eq, decide_eq_false_iff_not, li_0, li_1, li_2, li_3, li_4, li_5, li_6, li_7, li_8, li_9, li_10, li_20, li_40, li_99, li_100, li_255, li_899, li_999, li_m1, li_m2, li_m3, li_m4, li_m11, li_m12, li_m13, li_m14, li_m100] at h4 h18 hts h22 h80 ⊢) <;> omega)) | fail)
                all_goals (first | with_reducible rfl | (exfalso; ((try simp only [inB_t, inB_f, i_lt, i_le, i_eq, ne_eq, Bool.not_eq_true, Bool.not_eq_false, hpB, decide_eq_true_eq, decide_eq_false_iff_not, li_0, li_1, li_2, li_3, li_4, li_5, li_6, li_7, li_8, li_9, li_10, li_20, li_40, li_99, li_100, li_255, li_899, li_999, li_m1, li_m2, li_m3, li_m4, li_m11, li_m12, li_m13, li_m14, li_m100] at h4 h18 hts h22 h80 ⊢) <;> omega)))) (rr_sheet0 h hs _ _) ((congrFun (mu_n _ _ _ _ (by decide)) _).trans ((congrFun (mu_n _ _ _ _ (by decide)) _).trans ((congrFun (mu_n _ _ _ _ (by decide)) _).trans hg))))
        · refine x_iload_n (pc := 83) C 3 dX12_sheet_83 rfl ?_
          refine x_if_lt_t (pc := 84) C 106 dX12_sheet_84 (by decide) h22 ?_
          refine x_iconst (pc := 106) (v := 1) C dX12_sheet_106 rfl ?_
          exact x_iret (pc := 107) C X dX12_sheet_107 (foq (by
                unfold o_sheet
                simp only [hos, hos]
                repeat (first | with_reducible rfl | (refine (if_pos ?_).trans ?_; ((try simp only [inB_t, inB_f, i_lt, i_le, i_eq, ne_eq, Bool.not_eq_true, Bool.not_eq_false, hpB, decide_eq_true_eq, decide_eq_false_iff_not, li_0, li_1, li_2, li_3, li_4, li_5, li_6, li_7, li_8, li_9, li_10, li_20, li_40, li_99, li_100, li_255, li_899, li_999, li_m1, li_m2, li_m3, li_m4, li_m11, li_m12, li_m13, li_m14, li_m100] at h4 h18 hts h22 h80 ⊢) <;> omega)) | (refine (if_neg ?_).trans ?_; ((try simp only [inB_t, inB_f, i_lt, i_le, i_eq, ne_eq, Bool.not_eq_true, Bool.not_eq_false, hpB, decide_eq_true_eq, decide_eq_false_iff_not, li_0, li_1, li_2, li_3, li_4, li_5, li_6, li_7, li_8, li_9, li_10, li_20, li_40, li_99, li_100, li_255, li_899, li_999, li_m1, li_m2, li_m3, li_m4, li_m11, li_m12, li_m13, li_m14, li_m100] at h4 h18 hts h22 h80 ⊢) <;> omega)) | fail)
                all_goals (first | with_reducible rfl | (exfalso; ((try simp only [inB_t, inB_f, i_lt, i_le, i_eq, ne_eq, Bool.not_eq_true, Bool.not_eq_false, hpB, decide_eq_true_eq, decide_eq_false_iff_not, li_0, li_1, li_2, li_3, li_4, li_5, li_6, li_7, li_8, li_9, li_10, li_20, li_40, li_99, li_100, li_255, li_899, li_999, li_m1, li_m2, li_m3, li_m4, li_m11, li_m12, li_m13, li_m14, li_m100] at h4 h18 hts h22 h80 ⊢) <;> omega)))) (rr_sheet0 h hs _ _) ((congrFun (mu_n _ _ _ _ (by decide)) _).trans ((congrFun (mu_n _ _ _ _ (by decide)) _).trans ((congrFun (mu_n _ _ _ _ (by decide)) _).trans hg))))
      · refine x_iload_n (pc := 25) C 3 dX12_sheet_25 rfl ?_
        refine x_bipush (pc := 26) (v := 40) C dX12_sheet_26 rfl ?_
        refine x_icmp_le (pc := 28) C 34 dX12_sheet_28 (by decide) (fun h28 => ?_) (fun h28 => ?_)
        · refine x_iload_n (pc := 34) C 2 dX12_sheet_34 rfl ?_
          refine x_if_lt_f (pc := 35) C 45 dX12_sheet_35 (by decide) h22 ?_
          refine x_iload_n (pc := 38) C 3 dX12_sheet_38 rfl ?_
          refine x_if_ge (pc := 39) C 45 dX12_sheet_39 (by decide) (fun h39 => ?_) (fun h39 => ?_)
          · have hm41 : inB x3 41 = true := (by ((try simp only [inB_t, inB_f, i_lt, i_le, i_eq, ne_eq, Bool.not_eq_true, Bool.not_eq_false, hpB, decide_eq_true_eq, decide_eq_false_iff_not, li_0, li_1, li_2, li_3, li_4, li_5, li_6, li_7, li_8, li_9, li_10, li_20, li_40, li_99, li_100, li_255, li_899, li_999, li_m1, li_m2, li_m3, li_m4, li_m11, li_m12, li_m13, li_m14, li_m100] at h4 h18 hts h22 h28 h39 ⊢) <;> omega))
            have hx0 : 0 ≤ x2.toInt := (by ((try simp only [inB_t, inB_f, i_lt, i_le, i_eq, ne_eq, Bool.not_eq_true, Bool.not_eq_false, hpB, decide_eq_true_eq, decide_eq_false_iff_not, li_0, li_1, li_2, li_3, li_4, li_5, li_6, li_7, li_8, li_9, li_10, li_20, li_40, li_99, li_100, li_255, li_899, li_999, li_m1, li_m2, li_m3, li_m4, li_m11, li_m12, li_m13, li_m14, li_m100] at h4 h18 hts h22 h28 h39 ⊢) <;> omega))
            have hx2 : x2.toInt ≤ 2 := (by ((try simp only [inB_t, inB_f, i_lt, i_le, i_eq, ne_eq, Bool.not_eq_true, Bool.not_eq_false, hpB, decide_eq_true_eq, decide_eq_false_iff_not, li_0, li_1, li_2, li_3, li_4, li_5, li_6, li_7, li_8, li_9, li_10, li_20, li_40, li_99, li_100, li_255, li_899, li_999, li_m1, li_m2, li_m3, li_m4, li_m11, li_m12, li_m13, li_m14, li_m100] at h4 h18 hts h22 h28 h39 ⊢) <;> omega))
            obtain ⟨m, hm, em⟩ := inB_of hm41 (by omega)
            have htm := nI_toInt (n := m) (by omega)
            have hom := oN_nI (n := m) (by omega)
            subst em
            refine x_aload_n (pc := 45) C 0 dX12_sheet_45 rfl ?_
            refine g_M_isThere (pc := 46) C E q12_1 dX12_sheet_46 ?_
            refine x_iload_n (pc := 49) C 1 dX12_sheet_49 rfl ?_
            refine x_iload_n (pc := 50) C 2 dX12_sheet_50 rfl ?_
            refine x_if_lt_f (pc := 51) C 58 dX12_sheet_51 (by decide) h22 ?_
            refine x_iconst (pc := 54) (v := 1) C dX12_sheet_54 rfl ?_
            refine x_goto (pc := 55) C 59 dX12_sheet_55 (by decide) ?_
            refine s_RisThere (pc := 59) C E (by omega) rfl dX12_sheet_59 ?_
            refine x_aload_n (pc := 60) C 0 dX12_sheet_60 rfl ?_
            refine g_M_sorts (pc := 61) C E q12_2 dX12_sheet_61 ?_
            refine x_iload_n (pc := 64) C 1 dX12_sheet_64 rfl ?_
            refine x_iload_n (pc := 65) C 2 dX12_sheet_65 rfl ?_
            refine s_Rsorts (pc := 66) C E (by omega) dX12_sheet_66 ?_
            refine x_aload_n (pc := 67) C 0 dX12_sheet_67 rfl ?_
            refine g_M_sheetSize (pc := 68) C E q12_3 dX12_sheet_68 ?_
            refine x_iload_n (pc := 71) C 1 dX12_sheet_71 rfl ?_
            refine x_iload_n (pc := 72) C 3 dX12_sheet_72 rfl ?_
            refine s_RsheetSize (pc := 73) C E (by omega) dX12_sheet_73 ?_
            refine x_iconst (pc := 74) (v := 0) C dX12_sheet_74 rfl ?_
            refine x_istore (pc := 75) (L' := [(4, .int 0), (0, .ref (t.1 0)), (1, .int (nI s)), (2, .int x2), (3, .int (nI m))]) C dX12_sheet_75 (by decide) rfl ?_
            have loop77 : ∀ (k i : Nat) (y : Int32) (Mx : MM) , i + k = m → y = nI i → ShR s i (mu (mu (mu M 12 s 1) 13 s x2) 14 s (nI m)) Mx → XV κ (xP (wR t) Mx) 77 [(4, .int y), (0, .ref (t.1 0)), (1, .int (nI s)), (2, .int x2), (3, .int (nI m))] [] := by
              intro k
              induction k with
                | zero =>
                  intro i y Mx  hcnt ey eMx
                  subst ey
                  obtain rfl : m = i := by omega
                  refine x_iload (pc := 77) C 0 dX12_sheet_77 rfl ?_
                  refine x_iload_n (pc := 79) C 4 dX12_sheet_79 rfl ?_
                  refine x_icmp_ge_t (pc := 80) C 106 dX12_sheet_80 (by decide) (nI_le (by omega) (by omega)) ?_
                  refine x_iconst (pc := 106) (v := 1) C dX12_sheet_106 rfl ?_
                  exact x_iret (pc := 107) C X dX12_sheet_107 (foq (by
                        unfold o_sheet
                        simp only [hos, hom, hos]
                        repeat (first | with_reducible rfl | (refine (if_pos ?_).trans ?_; ((try simp only [inB_t, inB_f, i_lt, i_le, i_eq, ne_eq, Bool.not_eq_true, Bool.not_eq_false, hpB, decide_eq_true_eq, decide_eq_false_iff_not, li_0, li_1, li_2, li_3, li_4, li_5, li_6, li_7, li_8, li_9, li_10, li_20, li_40, li_99, li_100, li_255, li_899, li_999, li_m1, li_m2, li_m3, li_m4, li_m11, li_m12, li_m13, li_m14, li_m100] at h4 h18 hts h22 h28 h39 htm ⊢) <;> omega)) | (refine (if_neg ?_).trans ?_; ((try simp only [inB_t, inB_f, i_lt, i_le, i_eq, ne_eq, Bool.not_eq_true, Bool.not_eq_false, hpB, decide_eq_true_eq, decide_eq_false_iff_not, li_0, li_1, li_2, li_3, li_4, li_5, li_6, li_7, li_8, li_9, li_10, li_20, li_40, li_99, li_100, li_255, li_899, li_999, li_m1, li_m2, li_m3, li_m4, li_m11, li_m12, li_m13, li_m14, li_m100] at h4 h18 hts h22 h28 h39 htm ⊢) <;> omega)) | fail)
                        all_goals (first | with_reducible rfl | (exfalso; ((try simp only [inB_t, inB_f, i_lt, i_le, i_eq, ne_eq, Bool.not_eq_true, Bool.not_eq_false, hpB, decide_eq_true_eq, decide_eq_false_iff_not, li_0, li_1, li_2, li_3, li_4, li_5, li_6, li_7, li_8, li_9, li_10, li_20, li_40, li_99, li_100, li_255, li_899, li_999, li_m1, li_m2, li_m3, li_m4, li_m11, li_m12, li_m13, li_m14, li_m100] at h4 h18 hts h22 h28 h39 htm ⊢) <;> omega)))) (rr_sheet2 h hs (by omega) hx0 hx2 eMx) ((eMx.2 _ _ (by omega)).trans ((congrFun (mu_n _ _ _ _ (by decide)) _).trans ((congrFun (mu_n _ _ _ _ (by decide)) _).trans ((congrFun (mu_n _ _ _ _ (by decide)) _).trans hg)))))
                | succ k ih =>
                  intro i y Mx  hcnt ey eMx
                  subst ey
                  have hi77 : i < m := by omega
                  refine x_iload (pc := 77) C 0 dX12_sheet_77 rfl ?_
                  refine x_iload_n (pc := 79) C 4 dX12_sheet_79 rfl ?_
                  refine x_icmp_ge_f (pc := 80) C 106 dX12_sheet_80 (by decide) (nI_ge (by omega) (by omega)) ?_
                  refine x_iload_n (pc := 83) C 3 dX12_sheet_83 rfl ?_
                  refine x_if_lt_f (pc := 84) C 106 dX12_sheet_84 (by decide) h22 ?_
                  refine x_aload_n (pc := 87) C 1 dX12_sheet_87 rfl ?_
                  refine g_M_items (pc := 88) C E q12_4 dX12_sheet_88 ?_
                  refine x_bipush (pc := 91) (v := (nI 40)) C dX12_sheet_91 (by decide) ?_
                  refine x_iload_n (pc := 93) C 2 dX12_sheet_93 rfl ?_
                  refine x_imul (pc := 94) C dX12_sheet_94 ?_
                  refine x_eq (show (nI 40) * (nI s) = nI (40 * s) from pk_mul _ _) ?_
                  refine x_iload (pc := 95) C 0 dX12_sheet_95 rfl ?_
                  refine x_iadd (pc := 97) C dX12_sheet_97 ?_
                  refine x_eq (show (nI (40 * s)) + (nI i) = nI (40 * s + i) from nI_add _ _) ?_
                  refine x_iconst (pc := 98) (v := 0) C dX12_sheet_98 rfl ?_
                  refine s_Ritems (pc := 99) C E (by omega) dX12_sheet_99 ?_
                  refine x_iinc (pc := 100) (v := nI (i + 1)) (L' := [(4, .int (nI (i + 1))), (0, .ref (t.1 0)), (1, .int (nI s)), (2, .int x2), (3, .int (nI m))]) C 0 dX12_sheet_100 rfl (nI_1 _) (by decide) rfl ?_
                  refine x_goto (pc := 103) C 77 dX12_sheet_103 (by decide) ?_
                  refine x_sub [0, 1, 2, 3, 4] rfl ?_
                  exact ih (i + 1) _ _ (by omega) rfl (ShR_S (by omega) eMx)
            refine x_sub [0, 1, 2, 3, 4] rfl ?_
            exact loop77 m 0 _ _ (by omega) rfl ⟨fun q hq => absurd hq (Nat.not_lt_zero _), fun _ _ _ => rfl⟩
          · refine x_bipush (pc := 42) (v := (-14)) C dX12_sheet_42 rfl ?_
            exact x_iret (pc := 44) C X dX12_sheet_44 (foq (by
                  unfold o_sheet
                  simp only [hos]
                  repeat (first | with_reducible rfl | (refine (if_pos ?_).trans ?_; ((try simp only [inB_t, inB_f, i_lt, i_le, i_eq, ne_eq, Bool.not_eq_true, Bool.not_eq_false, hpB, decide_eq_true_eq, decide_eq_false_iff_not, li_0, li_1, li_2, li_3, li_4, li_5, li_6, li_7, li_8, li_9, li_10, li_20, li_40, li_99, li_100, li_255, li_899, li_999, li_m1, li_m2, li_m3, li_m4, li_m11, li_m12, li_m13, li_m14, li_m100] at h4 h18 hts h22 h28 h39 ⊢) <;> omega)) | (refine (if_neg ?_).trans ?_; ((try simp only [inB_t, inB_f, i_lt, i_le, i_eq, ne_eq, Bool.not_eq_true, Bool.not_eq_false, hpB, decide_eq_true_eq, decide_eq_false_iff_not, li_0, li_1, li_2, li_3, li_4, li_5, li_6, li_7, li_8, li_9, li_10, li_20, li_40, li_99, li_100, li_255, li_899, li_999, li_m1, li_m2, li_m3, li_m4, li_m11, li_m12, li_m13, li_m14, li_m100] at h4 h18 hts h22 h28 h39 ⊢) <;> omega)) | fail)
                  all_goals (first | with_reducible rfl | (exfalso; ((try simp only [inB_t, inB_f, i_lt, i_le, i_eq, ne_eq, Bool.not_eq_true, Bool.not_eq_false, hpB, decide_eq_true_eq, decide_eq_false_iff_not, li_0, li_1, li_2, li_3, li_4, li_5, li_6, li_7, li_8, li_9, li_10, li_20, li_40, li_99, li_100, li_255, li_899, li_999, li_m1, li_m2, li_m3, li_m4, li_m11, li_m12, li_m13, li_m14, li_m100] at h4 h18 hts h22 h28 h39 ⊢) <;> omega)))) h hg)
        · refine x_bipush (pc := 31) (v := (-2)) C dX12_sheet_31 rfl ?_
          exact x_iret (pc := 33) C X dX12_sheet_33 (foq (by
                unfold o_sheet
                simp only [hos]
                repeat (first | with_reducible rfl | (refine (if_pos ?_).trans ?_; ((try simp only [inB_t, inB_f, i_lt, i_le, i_eq, ne_eq, Bool.not_eq_true, Bool.not_eq_false, hpB, decide_eq_true_eq, decide_eq_false_iff_not, li_0, li_1, li_2, li_3, li_4, li_5, li_6, li_7, li_8, li_9, li_10, li_20, li_40, li_99, li_100, li_255, li_899, li_999, li_m1, li_m2, li_m3, li_m4, li_m11, li_m12, li_m13, li_m14, li_m100] at h4 h18 hts h22 h28 ⊢) <;> omega)) | (refine (if_neg ?_).trans ?_; ((try simp only [inB_t, inB_f, i_lt, i_le, i_eq, ne_eq, Bool.not_eq_true, Bool.not_eq_false, hpB, decide_eq_true_eq, decide_eq_false_iff_not, li_0, li_1, li_2, li_3, li_4, li_5, li_6, li_7, li_8, li_9, li_10, li_20, li_40, li_99, li_100, li_255, li_899, li_999, li_m1, li_m2, li_m3, li_m4, li_m11, li_m12, li_m13, li_m14, li_m100] at h4 h18 hts h22 h28 ⊢) <;> omega)) | fail)
                all_goals (first | with_reducible rfl | (exfalso; ((try simp only [inB_t, inB_f, i_lt, i_le, i_eq, ne_eq, Bool.not_eq_true, Bool.not_eq_false, hpB, decide_eq_true_eq, decide_eq_false_iff_not, li_0, li_1, li_2, li_3, li_4, li_5, li_6, li_7, li_8, li_9, li_10, li_20, li_40, li_99, li_100, li_255, li_899, li_999, li_m1, li_m2, li_m3, li_m4, li_m11, li_m12, li_m13, li_m14, li_m100] at h4 h18 hts h22 h28 ⊢) <;> omega)))) h hg)

