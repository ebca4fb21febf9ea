set_option maxRecDepth 100000 in
set_option maxHeartbeats 800000 in
theorem c_X11_count (t : CT) {σ : SV} {M : MM} (h : RC σ M)(x1 : Int32) : XMet (wC t) yX11_count cX11_count 2 (some .int) 6 [.ref (t.1 0), .int x1] M (aR σ (a_count σ x1)) := by
  refine x_met RX11 (by decide) rfl (Nat.le_of_ble_eq_true rfl) (fun κ C X E => ?_)
  refine x_L (L' := [(0, .ref (t.1 0)), (1, .int x1)]) rfl ?_
  have hn6 := rc_n6 h
  have hq6 := rc_q6 h
  have hq := rc_q h
  have hN6 := h.1.1
  have hB := h.1.2.1
  refine x_iload_n (pc := 0) C 1 dX11_count_0 rfl ?_
  by_cases h9 : x1.toInt = 0 ∨ x1.toInt = 1 ∨ x1.toInt = 2 ∨ x1.toInt = 3 ∨ x1.toInt = 4 ∨ x1.toInt = 5
  · rcases h9 with h9 | h9 | h9 | h9 | h9 | h9
    · obtain rfl : x1 = 0 := i_eq.mpr h9
      refine x_tableIn (pc := 1) C 40 dX11_count_1 (by decide) (by decide) rfl (by decide) ?_
      refine x_aload_n (pc := 40) C 0 dX11_count_40 rfl ?_
      refine g_main_now (pc := 41) C E q2_1 dX11_count_41 ?_
      refine g_World_size (pc := 44) C E (i := 0) (by omega) q19_2 dX11_count_44 ?_
      refine x_eq (show M (7 + 0) 2 = nI (vN (sV σ)) from rc_size h) ?_
      exact x_iret (pc := 47) C X dX11_count_47 (fia (by
            unfold a_count
            repeat (first | with_reducible rfl | (refine (if_pos ?_).trans ?_; ((try simp only [inB_t, inB_f, i_lt, i_le, i_eq, ne_eq, Bool.not_eq_true, Bool.not_eq_false, hpB, decide_eq_true_eq, decide_eq_false_iff_not, li_0, li_1, li_2, li_3, li_4, li_5, li_6, li_7, li_8, li_9, li_10, li_20, li_40, li_99, li_100, li_255, li_899, li_999, li_m1, li_m2, li_m3, li_m4, li_m11, li_m12, li_m13, li_m14, li_m100] at  ⊢) <;> omega)) | (refine (if_neg ?_).trans ?_; ((try simp only [inB_t, inB_f, i_lt, i_le, i_eq, ne_eq, Bool.not_eq_true, Bool.not_eq_false, hpB, decide_eq_true_eq, decide_eq_false_iff_not, li_0, li_1, li_2, li_3, li_4, li_5, li_6, li_7, li_8, li_9, li_10, li_20, li_40, li_99, li_100, li_255, li_899, li_999, li_m1, li_m2, li_m3, li_m4, li_m11, li_m12, li_m13, li_m14, li_m100] at  ⊢) <;> omega)) | fail)
            all_goals (first | with_reducible rfl | (exfalso; ((try simp only [inB_t, inB_f, i_lt, i_le, i_eq, ne_eq, Bool.not_eq_true, Bool.not_eq_false, hpB, decide_eq_true_eq, decide_eq_false_iff_not, li_0, li_1, li_2, li_3, li_4, li_5, li_6, li_7, li_8, li_9, li_10, li_20, li_40, li_99, li_100, li_255, li_899, li_999, li_m1, li_m2, li_m3, li_m4, li_m11, li_m12, li_m13, li_m14, li_m100] at  ⊢) <;> omega)))) h)
    · obtain rfl : x1 = 1 := i_eq.mpr h9
      refine x_tableIn (pc := 1) C 48 dX11_count_1 (by decide) (by decide) rfl (by decide) ?_
      refine x_aload_n (pc := 48) C 0 dX11_count_48 rfl ?_
      refine g_main_now (pc := 49) C E q2_1 dX11_count_49 ?_
      refine x_callV (pc := 52) C E [] [] (w_readers t (by decide : 0 < 3) h.2.1 ) m_X10_readers q33_22 (xo_World (i := 0) (by omega)) rfl (by decide) (Nat.le_of_ble_eq_true rfl) dX11_count_52 rfl (k_I ?_)
      refine x_callS (pc := 55) C E [.int (mk (vRd (sV σ)) (vN (sV σ)))] [] (c_bitCount t _ _) m_J6_bitCount_0f7a4 q23_8 rfl (by decide) (Nat.le_of_ble_eq_true rfl) dX11_count_55 rfl (k_I ?_)
      refine x_eq (show jbc (mk (vRd (sV σ)) (vN (sV σ))) = nI (cnt (vRd (sV σ)) (vN (sV σ))) from jbc_le (by omega)) ?_
      exact x_iret (pc := 58) C X dX11_count_58 (fia (by
            unfold a_count
            repeat (first | with_reducible rfl | (refine (if_pos ?_).trans ?_; ((try simp only [inB_t, inB_f, i_lt, i_le, i_eq, ne_eq, Bool.not_eq_true, Bool.not_eq_false, hpB, decide_eq_true_eq, decide_eq_false_iff_not, li_0, li_1, li_2, li_3, li_4, li_5, li_6, li_7, li_8, li_9, li_10, li_20, li_40, li_99, li_100, li_255, li_899, li_999, li_m1, li_m2, li_m3, li_m4, li_m11, li_m12, li_m13, li_m14, li_m100] at  ⊢) <;> omega)) | (refine (if_neg ?_).trans ?_; ((try simp only [inB_t, inB_f, i_lt, i_le, i_eq, ne_eq, Bool.not_eq_true, Bool.not_eq_false, hpB, decide_eq_true_eq, decide_eq_false_iff_not, li_0, li_1, li_2, li_3, li_4, li_5, li_6, li_7, li_8, li_9, li_10, li_20, li_40, li_99, li_100, li_255, li_899, li_999, li_m1, li_m2, li_m3, li_m4, li_m11, li_m12, li_m13, li_m14, li_m100] at  ⊢) <;> omega)) | fail)
            all_goals (first | with_reducible rfl | (exfalso; ((try simp only [inB_t, inB_f, i_lt, i_le, i_eq, ne_eq, Bool.not_eq_true, Bool.not_eq_false, hpB, decide_eq_true_eq, decide_eq_false_iff_not, li_0, li_1, li_2, li_3, li_4, li_5, li_6, li_7, li_8, li_9, li_10, li_20, li_40, li_99, li_100, li_255, li_899, li_999, li_m1, li_m2, li_m3, li_m4, li_m11, li_m12, li_m13, li_m14, li_m100] at  ⊢) <;> omega)))) h)
    · obtain rfl : x1 = 2 := i_eq.mpr h9
      refine x_tableIn (pc := 1) C 59 dX11_count_1 (by decide) (by decide) rfl (by decide) ?_
      refine x_aload_n (pc := 59) C 0 dX11_count_59 rfl ?_
      refine g_main_now (pc := 60) C E q2_1 dX11_count_60 ?_
      refine x_callV (pc := 63) C E [] [] (w_contentCount t (by decide : 0 < 3) h.2.1 ) m_X10_contentCount q46_2 (xo_World (i := 0) (by omega)) rfl (by decide) (Nat.le_of_ble_eq_true rfl) dX11_count_63 rfl (k_I ?_)
      exact x_iret (pc := 66) C X dX11_count_66 (fia (by
            unfold a_count
            repeat (first | with_reducible rfl | (refine (if_pos ?_).trans ?_; ((try simp only [inB_t, inB_f, i_lt, i_le, i_eq, ne_eq, Bool.not_eq_true, Bool.not_eq_false, hpB, decide_eq_true_eq, decide_eq_false_iff_not, li_0, li_1, li_2, li_3, li_4, li_5, li_6, li_7, li_8, li_9, li_10, li_20, li_40, li_99, li_100, li_255, li_899, li_999, li_m1, li_m2, li_m3, li_m4, li_m11, li_m12, li_m13, li_m14, li_m100] at  ⊢) <;> omega)) | (refine (if_neg ?_).trans ?_; ((try simp only [inB_t, inB_f, i_lt, i_le, i_eq, ne_eq, Bool.not_eq_true, Bool.not_eq_false, hpB, decide_eq_true_eq, decide_eq_false_iff_not, li_0, li_1, li_2, li_3, li_4, li_5, li_6, li_7, li_8, li_9, li_10, li_20, li_40, li_99, li_100, li_255, li_899, li_999, li_m1, li_m2, li_m3, li_m4, li_m11, li_m12, li_m13, li_m14, li_m100] at  ⊢) <;> omega)) | fail)
            all_goals (first | with_reducible rfl | (exfalso; ((try simp only [inB_t, inB_f, i_lt, i_le, i_eq, ne_eq, Bool.not_eq_true, Bool.not_eq_false, hpB, decide_eq_true_eq, decide_eq_false_iff_not, li_0, li_1, li_2, li_3, li_4, li_5, li_6, li_7, li_8, li_9, li_10, li_20, li_40, li_99, li_100, li_255, li_899, li_999, li_m1, li_m2, li_m3, li_m4, li_m11, li_m12, li_m13, li_m14, li_m100] at  ⊢) <;> omega)))) h)
    · obtain rfl : x1 = 3 := i_eq.mpr h9
      refine x_tableIn (pc := 1) C 67 dX11_count_1 (by decide) (by decide) rfl (by decide) ?_
      refine x_aload_n (pc := 67) C 0 dX11_count_67 rfl ?_
      refine g_main_textCount (pc := 68) C E q2_6 dX11_count_68 ?_
      refine x_eq (show M 0 8 = nI (sN σ) from rc_tc h) ?_
      exact x_iret (pc := 71) C X dX11_count_71 (fia (by
            unfold a_count
            repeat (first | with_reducible rfl | (refine (if_pos ?_).trans ?_; ((try simp only [inB_t, inB_f, i_lt, i_le, i_eq, ne_eq, Bool.not_eq_true, Bool.not_eq_false, hpB, decide_eq_true_eq, decide_eq_false_iff_not, li_0, li_1, li_2, li_3, li_4, li_5, li_6, li_7, li_8, li_9, li_10, li_20, li_40, li_99, li_100, li_255, li_899, li_999, li_m1, li_m2, li_m3, li_m4, li_m11, li_m12, li_m13, li_m14, li_m100] at  ⊢) <;> omega)) | (refine (if_neg ?_).trans ?_; ((try simp only [inB_t, inB_f, i_lt, i_le, i_eq, ne_eq, Bool.not_eq_true, Bool.not_eq_false, hpB, decide_eq_true_eq, decide_eq_false_iff_not, li_0, li_1, li_2, li_3, li_4, li_5, li_6, li_7, li_8, li_9, li_10, li_20, li_40, li_99, li_100, li_255, li_899, li_999, li_m1, li_m2, li_m3, li_m4, li_m11, li_m12, li_m13, li_m14, li_m100] at  ⊢) <;> omega)) | fail)
            all_goals (first | with_reducible rfl | (exfalso; ((try simp only [inB_t, inB_f, i_lt, i_le, i_eq, ne_eq, Bool.not_eq_true, Bool.not_eq_false, hpB, decide_eq_true_eq, decide_eq_false_iff_not, li_0, li_1, li_2, li_3, li_4, li_5, li_6, li_7, li_8, li_9, li_10, li_20, li_40, li_99, li_100, li_255, li_899, li_999, li_m1, li_m2, li_m3, li_m4, li_m11, li_m12, li_m13, li_m14, li_m100] at  ⊢) <;> omega)))) h)
    · obtain rfl : x1 = 4 := i_eq.mpr h9
      refine x_tableIn (pc := 1) C 72 dX11_count_1 (by decide) (by decide) rfl (by decide) ?_
      refine x_aload_n (pc := 72) C 0 dX11_count_72 rfl ?_
      refine g_main_tape (pc := 73) C E q1_21 dX11_count_73 ?_
      refine g_Tape_size (pc := 76) C E q26_6 dX11_count_76 ?_
      refine x_eq (show M 5 2 = nI (sB σ) from rc_tb h) ?_
      exact x_iret (pc := 79) C X dX11_count_79 (fia (by
            unfold a_count
            repeat (first | with_reducible rfl | (refine (if_pos ?_).trans ?_; ((try simp only [inB_t, inB_f, i_lt, i_le, i_eq, ne_eq, Bool.not_eq_true, Bool.not_eq_false, hpB, decide_eq_true_eq, decide_eq_false_iff_not, li_0, li_1, li_2, li_3, li_4, li_5, li_6, li_7, li_8, li_9, li_10, li_20, li_40, li_99, li_100, li_255, li_899, li_999, li_m1, li_m2, li_m3, li_m4, li_m11, li_m12, li_m13, li_m14, li_m100] at  ⊢) <;> omega)) | (refine (if_neg ?_).trans ?_; ((try simp only [inB_t, inB_f, i_lt, i_le, i_eq, ne_eq, Bool.not_eq_true, Bool.not_eq_false, hpB, decide_eq_true_eq, decide_eq_false_iff_not, li_0, li_1, li_2, li_3, li_4, li_5, li_6, li_7, li_8, li_9, li_10, li_20, li_40, li_99, li_100, li_255, li_899, li_999, li_m1, li_m2, li_m3, li_m4, li_m11, li_m12, li_m13, li_m14, li_m100] at  ⊢) <;> omega)) | fail)
            all_goals (first | with_reducible rfl | (exfalso; ((try simp only [inB_t, inB_f, i_lt, i_le, i_eq, ne_eq, Bool.not_eq_true, Bool.not_eq_false, hpB, decide_eq_true_eq, decide_eq_false_iff_not, li_0, li_1, li_2, li_3, li_4, li_5, li_6, li_7, li_8, li_9, li_10, li_20, li_40, li_99, li_100, li_255, li_899, li_999, li_m1, li_m2, li_m3, li_m4, li_m11, li_m12, li_m13, li_m14, li_m100] at  ⊢) <;> omega)))) h)
    · obtain rfl : x1 = 5 := i_eq.mpr h9
      refine x_tableIn (pc := 1) C 80 dX11_count_1 (by decide) (by decide) rfl (by decide) ?_
      refine x_aload_n (pc := 80) C 0 dX11_count_80 rfl ?_
      refine g_main_now (pc := 81) C E q2_1 dX11_count_81 ?_
      refine g_World_rule (pc := 84) C E (i := 0) (by omega) q23_19 dX11_count_84 ?_
      refine x_eq (show M (7 + 0) 1 = nI (vR (sV σ)) from rc_rule h) ?_
      exact x_iret (pc := 87) C X dX11_count_87 (fia (by
            unfold a_count
            repeat (first | with_reducible rfl | (refine (if_pos ?_).trans ?_; ((try simp only [inB_t, inB_f, i_lt, i_le, i_eq, ne_eq, Bool.not_eq_true, Bool.not_eq_false, hpB, decide_eq_true_eq, decide_eq_false_iff_not, li_0, li_1, li_2, li_3, li_4, li_5, li_6, li_7, li_8, li_9, li_10, li_20, li_40, li_99, li_100, li_255, li_899, li_999, li_m1, li_m2, li_m3, li_m4, li_m11, li_m12, li_m13, li_m14, li_m100] at  ⊢) <;> omega)) | (refine (if_neg ?_).trans ?_; ((try simp only [inB_t, inB_f, i_lt, i_le, i_eq, ne_eq, Bool.not_eq_true, Bool.not_eq_false, hpB, decide_eq_true_eq, decide_eq_false_iff_not, li_0, li_1, li_2, li_3, li_4, li_5, li_6, li_7, li_8, li_9, li_10, li_20, li_40, li_99, li_100, li_255, li_899, li_999, li_m1, li_m2, li_m3, li_m4, li_m11, li_m12, li_m13, li_m14, li_m100] at  ⊢) <;> omega)) | fail)
            all_goals (first | with_reducible rfl | (exfalso; ((try simp only [inB_t, inB_f, i_lt, i_le, i_eq, ne_eq, Bool.not_eq_true, Bool.not_eq_false, hpB, decide_eq_true_eq, decide_eq_false_iff_not, li_0, li_1, li_2, li_3, li_4, li_5, li_6, li_7, li_8, li_9, li_10, li_20, li_40, li_99, li_100, li_255, li_899, li_999, li_m1, li_m2, li_m3, li_m4, li_m11, li_m12, li_m13, li_m14, li_m100] at  ⊢) <;> omega)))) h)
  · refine x_tableOut (pc := 1) C 88 dX11_count_1 (by omega) (by decide) ?_
    refine x_bipush (pc := 88) (v := (-2)) C dX11_count_88 rfl ?_
    exact x_iret (pc := 90) C X dX11_count_90 (fia (by
          unfold a_count
          repeat (first | with_reducible rfl | (refine (if_pos ?_).trans ?_; ((try simp only [inB_t, inB_f, i_lt, i_le, i_eq, ne_eq, Bool.not_eq_true, Bool.not_eq_false, hpB, decide_eq_true_eq, decide_eq_false_iff_not, li_0, li_1, li_2, li_3, li_4, li_5, li_6, li_7, li_8, li_9, li_10, li_20, li_40, li_99, li_100, li_255, li_899, li_999, li_m1, li_m2, li_m3, li_m4, li_m11, li_m12, li_m13, li_m14, li_m100] at h9 ⊢) <;> omega)) | (refine (if_neg ?_).trans ?_; ((try simp only [inB_t, inB_f, i_lt, i_le, i_eq, ne_eq, Bool.not_eq_true, Bool.not_eq_false, hpB, decide_eq_true_eq, decide_eq_false_iff_not, li_0, li_1, li_2, li_3, li_4, li_5, li_6, li_7, li_8, li_9, li_10, li_20, li_40, li_99, li_100, li_255, li_899, li_999, li_m1, li_m2, li_m3, li_m4, li_m11, li_m12, li_m13, li_m14, li_m100] at h9 ⊢) <;> omega)) | fail)
          all_goals (first | with_reducible rfl | (exfalso; ((try simp only [inB_t, inB_f, i_lt, i_le, i_eq, ne_eq, Bool.not_eq_true, Bool.not_eq_false, hpB, decide_eq_true_eq, decide_eq_false_iff_not, li_0, li_1, li_2, li_3, li_4, li_5, li_6, li_7, li_8, li_9, li_10, li_20, li_40, li_99, li_100, li_255, li_899, li_999, li_m1, li_m2, li_m3, li_m4, li_m11, li_m12, li_m13, li_m14, li_m100] at h9 ⊢) <;> omega)))) h)

set_option maxRecDepth 100000 in
set_option maxHeartbeats 800000 in
theorem c_X11_image (t : CT) {σ : SV} {M : MM} (h : RC σ M) : XMet (wC t) yX11_image cX11_image 1 (some .int) 4 [.ref (t.1 0)] M (oR (o_image σ)) := by
  refine x_met RX11 (by decide) rfl (Nat.le_of_ble_eq_true rfl) (fun κ C X E => ?_)
  refine x_L (L' := [(0, .ref (t.1 0))]) rfl ?_
  have hn6 := rc_n6 h
  have hq6 := rc_q6 h
  have hq := rc_q h
  have hN6 := h.1.1
  have hB := h.1.2.1
  refine x_aload_n (pc := 0) C 0 dX11_image_0 rfl ?_
  refine g_main_kept (pc := 1) C E q2_2 dX11_image_1 ?_
  refine x_aload_n (pc := 4) C 0 dX11_image_4 rfl ?_
  refine g_main_now (pc := 5) C E q2_1 dX11_image_5 ?_
  refine x_callV (pc := 8) C E [.ref (t.1 (7 + 0))] [] (c_X10_become t _ (i := 1) (by omega) (i2 := 0) (by omega) (by decide)) m_X10_become q36_4 (xo_World (i := 1) (by omega)) rfl (by decide) (Nat.le_of_ble_eq_true rfl) dX11_image_8 rfl (k_U ?_)
  refine x_aload_n (pc := 11) C 0 dX11_image_11 rfl ?_
  refine x_iconst (pc := 12) (v := 1) C dX11_image_12 rfl ?_
  refine p_main_imageKept (pc := 13) C E q2_7 ⟨rfl, rfl⟩ dX11_image_13 ?_
  refine x_aload_n (pc := 16) C 0 dX11_image_16 rfl ?_
  refine g_main_now (pc := 17) C E q2_1 dX11_image_17 ?_
  refine g_World_size (pc := 20) C E (i := 0) (by omega) q19_2 dX11_image_20 ?_
  refine x_eq (show (mu (wBecN M 1 0 6) 0 9 1) (7 + 0) 2 = nI (vN (sV σ)) from (rc_size (σ := setK σ (some (sV σ))) (rc_image_ h))) ?_
  exact x_iret (pc := 23) C X dX11_image_23 ⟨rfl, rc_image_ h⟩

set_option maxRecDepth 100000 in
set_option maxHeartbeats 800000 in
theorem c_X11_back (t : CT) {σ : SV} {M : MM} (h : RC σ M) : XMet (wC t) yX11_back cX11_back 1 (some .int) 4 [.ref (t.1 0)] M (oR (o_back σ)) := by
  refine x_met RX11 (by decide) rfl (Nat.le_of_ble_eq_true rfl) (fun κ C X E => ?_)
  refine x_L (L' := [(0, .ref (t.1 0))]) rfl ?_
  have hn6 := rc_n6 h
  have hq6 := rc_q6 h
  have hq := rc_q h
  have hN6 := h.1.1
  have hB := h.1.2.1
  refine x_aload_n (pc := 0) C 0 dX11_back_0 rfl ?_
  refine g_main_imageKept (pc := 1) C E q2_7 dX11_back_1 ?_
  refine x_eq (show M 0 9 = b2i (sK σ).isSome from rc_ik h) ?_
  cases ho : sK σ with
  | none =>
    refine x_L (L' := [(0, .ref (t.1 0))]) rfl ?_
    refine x_if_ne_f (pc := 4) C 10 dX11_back_4 (by decide) rfl ?_
    refine x_bipush (pc := 7) (v := (-3)) C dX11_back_7 rfl ?_
    exact x_iret (pc := 9) C X dX11_back_9 (fin (by unfold o_back; rw [ho]) h)
  | some u =>
    refine x_L (L' := [(0, .ref (t.1 0))]) rfl ?_
    refine x_if_ne_t (pc := 4) C 10 dX11_back_4 (by decide) (show ¬ (1 : Int32) = 0 from by decide) ?_
    refine x_aload_n (pc := 10) C 0 dX11_back_10 rfl ?_
    refine g_main_now (pc := 11) C E q2_1 dX11_back_11 ?_
    refine x_aload_n (pc := 14) C 0 dX11_back_14 rfl ?_
    refine g_main_kept (pc := 15) C E q2_2 dX11_back_15 ?_
    refine x_callV (pc := 18) C E [.ref (t.1 (7 + 1))] [] (c_X10_become t _ (i := 0) (by omega) (i2 := 1) (by omega) (by decide)) m_X10_become q36_4 (xo_World (i := 0) (by omega)) rfl (by decide) (Nat.le_of_ble_eq_true rfl) dX11_back_18 rfl (k_U ?_)
    refine x_aload_n (pc := 21) C 0 dX11_back_21 rfl ?_
    refine g_main_now (pc := 22) C E q2_1 dX11_back_22 ?_
    refine g_World_size (pc := 25) C E (i := 0) (by omega) q19_2 dX11_back_25 ?_
    refine x_eq (show (wBecN M 0 1 6) (7 + 0) 2 = nI (vN u) from (rc_size (σ := setV σ u) (rc_back_ h ho))) ?_
    exact x_iret (pc := 28) C X dX11_back_28 (fin (by unfold o_back; rw [ho]) (rc_back_ h ho))

