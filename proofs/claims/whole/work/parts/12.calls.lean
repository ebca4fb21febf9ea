set_option maxRecDepth 100000 in
set_option maxHeartbeats 4000000 in
theorem c_X11_file (t : CT) {σ : SV} {M : MM} (h : RC σ M)(x1 x2 x3 : Int32) : XMet (wC t) yX11_file cX11_file 4 (some .int) 2 [.ref (t.1 0), .int x1, .int x2, .int x3] M (aR σ (a_file σ x1 x2 x3)) := by
  refine x_met RX11 (by decide) rfl (Nat.le_of_ble_eq_true rfl) (fun κ C X E => ?_)
  refine x_L (L' := [(0, .ref (t.1 0)), (1, .int x1), (2, .int x2), (3, .int x3)]) rfl ?_
  have hn6 := rc_n6 h
  have hq6 := rc_q6 h
  have hq := rc_q h
  have hN6 := h.1.1
  have hB := h.1.2.1
  refine x_aload_n (pc := 0) C 0 dX11_file_0 rfl ?_
  refine g_main_now (pc := 1) C E q2_1 dX11_file_1 ?_
  refine x_iload_n (pc := 4) C 1 dX11_file_4 rfl ?_
  refine x_callV (pc := 5) C E [.int x1] [] (w_has t (by decide : 0 < 3) h.2.1 _) m_X10_has q12_18 (xo_World (i := 0) (by omega)) rfl (by decide) (Nat.le_of_ble_eq_true rfl) dX11_file_5 rfl (k_I ?_)
  refine x_ifb_eq (pc := 8) C 27 dX11_file_8 (by decide) (fun h8 => ?_) (fun h8 => ?_)
  · refine x_bipush (pc := 27) (v := (-2)) C dX11_file_27 rfl ?_
    exact x_iret (pc := 29) C X dX11_file_29 (fia (by
          unfold a_file
          repeat (first | with_reducible rfl | (refine (if_pos ?_).trans ?_; ((try simp only [inB_t, inB_f, i_lt, i_le, i_eq, ne_eq, Bool.not_eq_true, Bool.not_eq_false, hpB, decide_eq_true_eq, decide_eq_false_iff_not, li_0, li_1, li_2, li_3, li_4, li_5, li_6, li_7, li_8, li_9, li_10, li_20, li_40, li_99, li_100, li_255, li_899, li_999, li_m1, li_m2, li_m3, li_m4, li_m11, li_m12, li_m13, li_m14, li_m100] at h8 ⊢) <;> omega)) | (refine (if_neg ?_).trans ?_; ((try simp only [inB_t, inB_f, i_lt, i_le, i_eq, ne_eq, Bool.not_eq_true, Bool.not_eq_false, hpB, decide_eq_true_eq, decide_eq_false_iff_not, li_0, li_1, li_2, li_3, li_4, li_5, li_6, li_7, li_8, li_9, li_10, li_20, li_40, li_99, li_100, li_255, li_899, li_999, li_m1, li_m2, li_m3, li_m4, li_m11, li_m12, li_m13, li_m14, li_m100] at h8 ⊢) <;> omega)) | fail)
          all_goals (first | with_reducible rfl | (exfalso; ((try simp only [inB_t, inB_f, i_lt, i_le, i_eq, ne_eq, Bool.not_eq_true, Bool.not_eq_false, hpB, decide_eq_true_eq, decide_eq_false_iff_not, li_0, li_1, li_2, li_3, li_4, li_5, li_6, li_7, li_8, li_9, li_10, li_20, li_40, li_99, li_100, li_255, li_899, li_999, li_m1, li_m2, li_m3, li_m4, li_m11, li_m12, li_m13, li_m14, li_m100] at h8 ⊢) <;> omega)))) h)
  · obtain ⟨d, hd, ed⟩ := inB_of h8 (by omega)
    have htd := nI_toInt (n := d) (by omega)
    have hod := oN_nI (n := d) (by omega)
    subst ed
    refine x_iload_n (pc := 11) C 2 dX11_file_11 rfl ?_
    refine x_callS (pc := 12) C E [.int x2] [] (c_X11_isFile t _ _) m_X11_isFile q25_15 rfl (by decide) (Nat.le_of_ble_eq_true rfl) dX11_file_12 rfl (k_I ?_)
    refine x_ifb_eq (pc := 15) C 27 dX11_file_15 (by decide) (fun h15 => ?_) (fun h15 => ?_)
    · refine x_bipush (pc := 27) (v := (-2)) C dX11_file_27 rfl ?_
      exact x_iret (pc := 29) C X dX11_file_29 (fia (by
            unfold a_file
            simp only [hod]
            repeat (first | with_reducible rfl | (refine (if_pos ?_).trans ?_; ((try simp only [inB_t, inB_f, i_lt, i_le, i_eq, ne_eq, Bool.not_eq_true, Bool.not_eq_false, hpB, decide_eq_true_eq, decide_eq_false_iff_not, li_0, li_1, li_2, li_3, li_4, li_5, li_6, li_7, li_8, li_9, li_10, li_20, li_40, li_99, li_100, li_255, li_899, li_999, li_m1, li_m2, li_m3, li_m4, li_m11, li_m12, li_m13, li_m14, li_m100] at h8 htd h15 ⊢) <;> omega)) | (refine (if_neg ?_).trans ?_; ((try simp only [inB_t, inB_f, i_lt, i_le, i_eq, ne_eq, Bool.not_eq_true, Bool.not_eq_false, hpB, decide_eq_true_eq, decide_eq_false_iff_not, li_0, li_1, li_2, li_3, li_4, li_5, li_6, li_7, li_8, li_9, li_10, li_20, li_40, li_99, li_100, li_255, li_899, li_999, li_m1, li_m2, li_m3, li_m4, li_m11, li_m12, li_m13, li_m14, li_m100] at h8 htd h15 ⊢) <;> omega)) | fail)
            all_goals (first | with_reducible rfl | (exfalso; ((try simp only [inB_t, inB_f, i_lt, i_le, i_eq, ne_eq, Bool.not_eq_true, Bool.not_eq_false, hpB, decide_eq_true_eq, decide_eq_false_iff_not, li_0, li_1, li_2, li_3, li_4, li_5, li_6, li_7, li_8, li_9, li_10, li_20, li_40, li_99, li_100, li_255, li_899, li_999, li_m1, li_m2, li_m3, li_m4, li_m11, li_m12, li_m13, li_m14, li_m100] at h8 htd h15 ⊢) <;> omega)))) h)
    · obtain ⟨f, hf, ef⟩ := inB_of h15 (by omega)
      have htf := nI_toInt (n := f) (by omega)
      have hof := oN_nI (n := f) (by omega)
      subst ef
      refine x_iload_n (pc := 18) C 3 dX11_file_18 rfl ?_
      refine x_if_lt (pc := 19) C 27 dX11_file_19 (by decide) (fun h19 => ?_) (fun h19 => ?_)
      · refine x_bipush (pc := 27) (v := (-2)) C dX11_file_27 rfl ?_
        exact x_iret (pc := 29) C X dX11_file_29 (fia (by
              unfold a_file
              simp only [hod, hof]
              repeat (first | with_reducible rfl | (refine (if_pos ?_).trans ?_; ((try simp only [inB_t, inB_f, i_lt, i_le, i_eq, ne_eq, Bool.not_eq_true, Bool.not_eq_false, hpB, decide_eq_true_eq, decide_eq_false_iff_not, li_0, li_1, li_2, li_3, li_4, li_5, li_6, li_7, li_8, li_9, li_10, li_20, li_40, li_99, li_100, li_255, li_899, li_999, li_m1, li_m2, li_m3, li_m4, li_m11, li_m12, li_m13, li_m14, li_m100] at h8 htd h15 htf h19 ⊢) <;> omega)) | (refine (if_neg ?_).trans ?_; ((try simp only [inB_t, inB_f, i_lt, i_le, i_eq, ne_eq, Bool.not_eq_true, Bool.not_eq_false, hpB, decide_eq_true_eq, decide_eq_false_iff_not, li_0, li_1, li_2, li_3, li_4, li_5, li_6, li_7, li_8, li_9, li_10, li_20, li_40, li_99, li_100, li_255, li_899, li_999, li_m1, li_m2, li_m3, li_m4, li_m11, li_m12, li_m13, li_m14, li_m100] at h8 htd h15 htf h19 ⊢) <;> omega)) | fail)
              all_goals (first | with_reducible rfl | (exfalso; ((try simp only [inB_t, inB_f, i_lt, i_le, i_eq, ne_eq, Bool.not_eq_true, Bool.not_eq_false, hpB, decide_eq_true_eq, decide_eq_false_iff_not, li_0, li_1, li_2, li_3, li_4, li_5, li_6, li_7, li_8, li_9, li_10, li_20, li_40, li_99, li_100, li_255, li_899, li_999, li_m1, li_m2, li_m3, li_m4, li_m11, li_m12, li_m13, li_m14, li_m100] at h8 htd h15 htf h19 ⊢) <;> omega)))) h)
      · refine x_iload_n (pc := 22) C 3 dX11_file_22 rfl ?_
        refine x_iconst (pc := 23) (v := 1) C dX11_file_23 rfl ?_
        refine x_icmp_le (pc := 24) C 30 dX11_file_24 (by decide) (fun h24 => ?_) (fun h24 => ?_)
        · refine x_iload_n (pc := 30) C 3 dX11_file_30 rfl ?_
          refine x_if_ne (pc := 31) C 51 dX11_file_31 (by decide) (fun h31 => ?_) (fun h31 => ?_)
          · refine x_aload_n (pc := 51) C 0 dX11_file_51 rfl ?_
            refine g_main_now (pc := 52) C E q2_1 dX11_file_52 ?_
            refine g_World_disks (pc := 55) C E (i := 0) (by omega) q12_15 dX11_file_55 ?_
            refine x_iload_n (pc := 58) C 1 dX11_file_58 rfl ?_
            refine l_disks (pc := 59) C E (i := 0) (by omega) (by omega) dX11_file_59 ?_
            refine g_Disk_stamps (pc := 60) C E (by omega) q25_14 dX11_file_60 ?_
            refine x_iload_n (pc := 63) C 2 dX11_file_63 rfl ?_
            refine l_st (pc := 64) C E (by omega) (by omega) dX11_file_64 ?_
            refine x_eq (show M (64 + 3 * (6 * 0 + d)) f = vT (sV σ) d f from rc_st h (by omega) (by omega)) ?_
            exact x_iret (pc := 65) C X dX11_file_65 (fia (by
                  unfold a_file
                  simp only [hod, hof]
                  repeat (first | with_reducible rfl | (refine (if_pos ?_).trans ?_; ((try simp only [inB_t, inB_f, i_lt, i_le, i_eq, ne_eq, Bool.not_eq_true, Bool.not_eq_false, hpB, decide_eq_true_eq, decide_eq_false_iff_not, li_0, li_1, li_2, li_3, li_4, li_5, li_6, li_7, li_8, li_9, li_10, li_20, li_40, li_99, li_100, li_255, li_899, li_999, li_m1, li_m2, li_m3, li_m4, li_m11, li_m12, li_m13, li_m14, li_m100] at h8 htd h15 htf h19 h24 h31 ⊢) <;> omega)) | (refine (if_neg ?_).trans ?_; ((try simp only [inB_t, inB_f, i_lt, i_le, i_eq, ne_eq, Bool.not_eq_true, Bool.not_eq_false, hpB, decide_eq_true_eq, decide_eq_false_iff_not, li_0, li_1, li_2, li_3, li_4, li_5, li_6, li_7, li_8, li_9, li_10, li_20, li_40, li_99, li_100, li_255, li_899, li_999, li_m1, li_m2, li_m3, li_m4, li_m11, li_m12, li_m13, li_m14, li_m100] at h8 htd h15 htf h19 h24 h31 ⊢) <;> omega)) | fail)
                  all_goals (first | with_reducible rfl | (exfalso; ((try simp only [inB_t, inB_f, i_lt, i_le, i_eq, ne_eq, Bool.not_eq_true, Bool.not_eq_false, hpB, decide_eq_true_eq, decide_eq_false_iff_not, li_0, li_1, li_2, li_3, li_4, li_5, li_6, li_7, li_8, li_9, li_10, li_20, li_40, li_99, li_100, li_255, li_899, li_999, li_m1, li_m2, li_m3, li_m4, li_m11, li_m12, li_m13, li_m14, li_m100] at h8 htd h15 htf h19 h24 h31 ⊢) <;> omega)))) h)
          · refine x_aload_n (pc := 34) C 0 dX11_file_34 rfl ?_
            refine g_main_now (pc := 35) C E q2_1 dX11_file_35 ?_
            refine g_World_disks (pc := 38) C E (i := 0) (by omega) q12_15 dX11_file_38 ?_
            refine x_iload_n (pc := 41) C 1 dX11_file_41 rfl ?_
            refine l_disks (pc := 42) C E (i := 0) (by omega) (by omega) dX11_file_42 ?_
            refine g_Disk_contents (pc := 43) C E (by omega) q25_13 dX11_file_43 ?_
            refine x_iload_n (pc := 46) C 2 dX11_file_46 rfl ?_
            refine l_ct (pc := 47) C E (by omega) (by omega) dX11_file_47 ?_
            refine x_eq (show M (63 + 3 * (6 * 0 + d)) f = vC (sV σ) d f from rc_ct h (by omega) (by omega)) ?_
            refine x_goto (pc := 48) C 65 dX11_file_48 (by decide) ?_
            exact x_iret (pc := 65) C X dX11_file_65 (fia (by
                  unfold a_file
                  simp only [hod, hof]
                  repeat (first | with_reducible rfl | (refine (if_pos ?_).trans ?_; ((try simp only [inB_t, inB_f, i_lt, i_le, i_eq, ne_eq, Bool.not_eq_true, Bool.not_eq_false, hpB, decide_eq_true_eq, decide_eq_false_iff_not, li_0, li_1, li_2, li_3, li_4, li_5, li_6, li_7, li_8, li_9, li_10, li_20, li_40, li_99, li_100, li_255, li_899, li_999, li_m1, li_m2, li_m3, li_m4, li_m11, li_m12, li_m13, li_m14, li_m100] at h8 htd h15 htf h19 h24 h31 ⊢) <;> omega)) | (refine (if_neg ?_).trans ?_; ((try simp only [inB_t, inB_f, i_lt, i_le, i_eq, ne_eq, Bool.not_eq_true, Bool.not_eq_false, hpB, decide_eq_true_eq, decide_eq_false_iff_not, li_0, li_1, li_2, li_3, li_4, li_5, li_6, li_7, li_8, li_9, li_10, li_20, li_40, li_99, li_100, li_255, li_899, li_999, li_m1, li_m2, li_m3, li_m4, li_m11, li_m12, li_m13, li_m14, li_m100] at h8 htd h15 htf h19 h24 h31 ⊢) <;> omega)) | fail)
                  all_goals (first | with_reducible rfl | (exfalso; ((try simp only [inB_t, inB_f, i_lt, i_le, i_eq, ne_eq, Bool.not_eq_true, Bool.not_eq_false, hpB, decide_eq_true_eq, decide_eq_false_iff_not, li_0, li_1, li_2, li_3, li_4, li_5, li_6, li_7, li_8, li_9, li_10, li_20, li_40, li_99, li_100, li_255, li_899, li_999, li_m1, li_m2, li_m3, li_m4, li_m11, li_m12, li_m13, li_m14, li_m100] at h8 htd h15 htf h19 h24 h31 ⊢) <;> omega)))) h)
        · refine x_bipush (pc := 27) (v := (-2)) C dX11_file_27 rfl ?_
          exact x_iret (pc := 29) C X dX11_file_29 (fia (by
                unfold a_file
                simp only [hod, hof]
                repeat (first | with_reducible rfl | (refine (if_pos ?_).trans ?_; ((try simp only [inB_t, inB_f, i_lt, i_le, i_eq, ne_eq, Bool.not_eq_true, Bool.not_eq_false, hpB, decide_eq_true_eq, decide_eq_false_iff_not, li_0, li_1, li_2, li_3, li_4, li_5, li_6, li_7, li_8, li_9, li_10, li_20, li_40, li_99, li_100, li_255, li_899, li_999, li_m1, li_m2, li_m3, li_m4, li_m11, li_m12, li_m13, li_m14, li_m100] at h8 htd h15 htf h19 h24 ⊢) <;> omega)) | (refine (if_neg ?_).trans ?_; ((try simp only [inB_t, inB_f, i_lt, i_le, i_eq, ne_eq, Bool.not_eq_true, Bool.not_eq_false, hpB, decide_eq_true_eq, decide_eq_false_iff_not, li_0, li_1, li_2, li_3, li_4, li_5, li_6, li_7, li_8, li_9, li_10, li_20, li_40, li_99, li_100, li_255, li_899, li_999, li_m1, li_m2, li_m3, li_m4, li_m11, li_m12, li_m13, li_m14, li_m100] at h8 htd h15 htf h19 h24 ⊢) <;> omega)) | fail)
                all_goals (first | with_reducible rfl | (exfalso; ((try simp only [inB_t, inB_f, i_lt, i_le, i_eq, ne_eq, Bool.not_eq_true, Bool.not_eq_false, hpB, decide_eq_true_eq, decide_eq_false_iff_not, li_0, li_1, li_2, li_3, li_4, li_5, li_6, li_7, li_8, li_9, li_10, li_20, li_40, li_99, li_100, li_255, li_899, li_999, li_m1, li_m2, li_m3, li_m4, li_m11, li_m12, li_m13, li_m14, li_m100] at h8 htd h15 htf h19 h24 ⊢) <;> omega)))) h)

set_option maxRecDepth 100000 in
set_option maxHeartbeats 4000000 in
theorem c_X11_told (t : CT) {σ : SV} {M : MM} (h : RC σ M)(x1 x2 : Int32) : XMet (wC t) yX11_told cX11_told 4 (some .int) 6 [.ref (t.1 0), .int x1, .int x2] M (aR σ (a_told σ x1 x2)) := by
  refine x_met RX11 (by decide) rfl (Nat.le_of_ble_eq_true rfl) (fun κ C X E => ?_)
  refine x_L (L' := [(0, .ref (t.1 0)), (1, .int x1), (2, .int x2)]) rfl ?_
  have hn6 := rc_n6 h
  have hq6 := rc_q6 h
  have hq := rc_q h
  have hN6 := h.1.1
  have hB := h.1.2.1
  refine x_iload_n (pc := 0) C 2 dX11_told_0 rfl ?_
  refine x_if_ne (pc := 1) C 12 dX11_told_1 (by decide) (fun h1 => ?_) (fun h1 => ?_)
  · refine x_iload_n (pc := 12) C 2 dX11_told_12 rfl ?_
    refine x_if_lt (pc := 13) C 33 dX11_told_13 (by decide) (fun h13 => ?_) (fun h13 => ?_)
    · refine x_bipush (pc := 33) (v := (-2)) C dX11_told_33 rfl ?_
      exact x_iret (pc := 35) C X dX11_told_35 (fia (by
            unfold a_told
            repeat (first | with_reducible rfl | (refine (if_pos ?_).trans ?_; ((try simp only [inB_t, inB_f, i_lt, i_le, i_eq, ne_eq, Bool.not_eq_true, Bool.not_eq_false, hpB, decide_eq_true_eq, decide_eq_false_iff_not, li_0, li_1, li_2, li_3, li_4, li_5, li_6, li_7, li_8, li_9, li_10, li_20, li_40, li_99, li_100, li_255, li_899, li_999, li_m1, li_m2, li_m3, li_m4, li_m11, li_m12, li_m13, li_m14, li_m100] at h1 h13 ⊢) <;> omega)) | (refine (if_neg ?_).trans ?_; ((try simp only [inB_t, inB_f, i_lt, i_le, i_eq, ne_eq, Bool.not_eq_true, Bool.not_eq_false, hpB, decide_eq_true_eq, decide_eq_false_iff_not, li_0, li_1, li_2, li_3, li_4, li_5, li_6, li_7, li_8, li_9, li_10, li_20, li_40, li_99, li_100, li_255, li_899, li_999, li_m1, li_m2, li_m3, li_m4, li_m11, li_m12, li_m13, li_m14, li_m100] at h1 h13 ⊢) <;> omega)) | fail)
            all_goals (first | with_reducible rfl | (exfalso; ((try simp only [inB_t, inB_f, i_lt, i_le, i_eq, ne_eq, Bool.not_eq_true, Bool.not_eq_false, hpB, decide_eq_true_eq, decide_eq_false_iff_not, li_0, li_1, li_2, li_3, li_4, li_5, li_6, li_7, li_8, li_9, li_10, li_20, li_40, li_99, li_100, li_255, li_899, li_999, li_m1, li_m2, li_m3, li_m4, li_m11, li_m12, li_m13, li_m14, li_m100] at h1 h13 ⊢) <;> omega)))) h)
    · refine x_iload_n (pc := 16) C 2 dX11_told_16 rfl ?_
      refine x_bipush (pc := 17) (v := 8) C dX11_told_17 rfl ?_
      refine x_icmp_gt (pc := 19) C 33 dX11_told_19 (by decide) (fun h19 => ?_) (fun h19 => ?_)
      · refine x_bipush (pc := 33) (v := (-2)) C dX11_told_33 rfl ?_
        exact x_iret (pc := 35) C X dX11_told_35 (fia (by
              unfold a_told
              repeat (first | with_reducible rfl | (refine (if_pos ?_).trans ?_; ((try simp only [inB_t, inB_f, i_lt, i_le, i_eq, ne_eq, Bool.not_eq_true, Bool.not_eq_false, hpB, decide_eq_true_eq, decide_eq_false_iff_not, li_0, li_1, li_2, li_3, li_4, li_5, li_6, li_7, li_8, li_9, li_10, li_20, li_40, li_99, li_100, li_255, li_899, li_999, li_m1, li_m2, li_m3, li_m4, li_m11, li_m12, li_m13, li_m14, li_m100] at h1 h13 h19 ⊢) <;> omega)) | (refine (if_neg ?_).trans ?_; ((try simp only [inB_t, inB_f, i_lt, i_le, i_eq, ne_eq, Bool.not_eq_true, Bool.not_eq_false, hpB, decide_eq_true_eq, decide_eq_false_iff_not, li_0, li_1, li_2, li_3, li_4, li_5, li_6, li_7, li_8, li_9, li_10, li_20, li_40, li_99, li_100, li_255, li_899, li_999, li_m1, li_m2, li_m3, li_m4, li_m11, li_m12, li_m13, li_m14, li_m100] at h1 h13 h19 ⊢) <;> omega)) | fail)
              all_goals (first | with_reducible rfl | (exfalso; ((try simp only [inB_t, inB_f, i_lt, i_le, i_eq, ne_eq, Bool.not_eq_true, Bool.not_eq_false, hpB, decide_eq_true_eq, decide_eq_false_iff_not, li_0, li_1, li_2, li_3, li_4, li_5, li_6, li_7, li_8, li_9, li_10, li_20, li_40, li_99, li_100, li_255, li_899, li_999, li_m1, li_m2, li_m3, li_m4, li_m11, li_m12, li_m13, li_m14, li_m100] at h1 h13 h19 ⊢) <;> omega)))) h)
      · refine x_aload_n (pc := 22) C 0 dX11_told_22 rfl ?_
        refine g_main_now (pc := 23) C E q2_1 dX11_told_23 ?_
        refine x_iload_n (pc := 26) C 1 dX11_told_26 rfl ?_
        refine x_callV (pc := 27) C E [.int x1] [] (w_has t (by decide : 0 < 3) h.2.1 _) m_X10_has q12_18 (xo_World (i := 0) (by omega)) rfl (by decide) (Nat.le_of_ble_eq_true rfl) dX11_told_27 rfl (k_I ?_)
        refine x_ifb_ne (pc := 30) C 36 dX11_told_30 (by decide) (fun h30 => ?_) (fun h30 => ?_)
        · obtain ⟨d, hd, ed⟩ := inB_of h30 (by omega)
          have htd := nI_toInt (n := d) (by omega)
          have hod := oN_nI (n := d) (by omega)
          subst ed
          have hk := rc_k6 h (d := d) hd
          refine x_aload_n (pc := 36) C 0 dX11_told_36 rfl ?_
          refine g_main_now (pc := 37) C E q2_1 dX11_told_37 ?_
          refine g_World_disks (pc := 40) C E (i := 0) (by omega) q12_15 dX11_told_40 ?_
          refine x_iload_n (pc := 43) C 1 dX11_told_43 rfl ?_
          refine l_disks (pc := 44) C E (i := 0) (by omega) (by omega) dX11_told_44 ?_
          refine x_astore_n (pc := 45) (L' := [(3, .ref (t.1 (62 + 3 * (6 * 0 + d)))), (0, .ref (t.1 0)), (1, .int (nI d)), (2, .int x2)]) C dX11_told_45 (by decide) rfl ?_
          refine x_iload_n (pc := 46) C 3 dX11_told_46 rfl ?_
          have h9 : x2.toInt = 1 ∨ x2.toInt = 2 ∨ x2.toInt = 3 ∨ x2.toInt = 4 ∨ x2.toInt = 5 ∨ x2.toInt = 6 ∨ x2.toInt = 7 ∨ x2.toInt = 8 := by simp only [i_lt, i_le, i_eq, li_0, li_8] at h1 h13 h19; omega
          rcases h9 with h9 | h9 | h9 | h9 | h9 | h9 | h9 | h9
          · obtain rfl : x2 = 1 := i_eq.mpr h9
            refine x_tableIn (pc := 47) C 88 dX11_told_47 (by decide) (by decide) rfl (by decide) ?_
            refine x_aload_n (pc := 88) C 0 dX11_told_88 rfl ?_
            refine g_Disk_number (pc := 89) C E (by omega) q12_16 dX11_told_89 ?_
            refine x_eq (show M (62 + 3 * (6 * 0 + d)) 1 = vU (sV σ) d from rc_num h (by omega)) ?_
            exact x_iret (pc := 92) C X dX11_told_92 (fia (by
                  unfold a_told
                  simp only [hod]
                  repeat (first | with_reducible rfl | (refine (if_pos ?_).trans ?_; ((try simp only [inB_t, inB_f, i_lt, i_le, i_eq, ne_eq, Bool.not_eq_true, Bool.not_eq_false, hpB, decide_eq_true_eq, decide_eq_false_iff_not, li_0, li_1, li_2, li_3, li_4, li_5, li_6, li_7, li_8, li_9, li_10, li_20, li_40, li_99, li_100, li_255, li_899, li_999, li_m1, li_m2, li_m3, li_m4, li_m11, li_m12, li_m13, li_m14, li_m100] at h1 h13 h19 h30 htd ⊢) <;> omega)) | (refine (if_neg ?_).trans ?_; ((try simp only [inB_t, inB_f, i_lt, i_le, i_eq, ne_eq, Bool.not_eq_true, Bool.not_eq_false, hpB, decide_eq_true_eq, decide_eq_false_iff_not, li_0, li_1, li_2, li_3, li_4, li_5, li_6, li_7, li_8, li_9, li_10, li_20, li_40, li_99, li_100, li_255, li_899, li_999, li_m1, li_m2, li_m3, li_m4, li_m11, li_m12, li_m13, li_m14, li_m100] at h1 h13 h19 h30 htd ⊢) <;> omega)) | fail)
                  all_goals (first | with_reducible rfl | (exfalso; ((try simp only [inB_t, inB_f, i_lt, i_le, i_eq, ne_eq, Bool.not_eq_true, Bool.not_eq_false, hpB, decide_eq_true_eq, decide_eq_false_iff_not, li_0, li_1, li_2, li_3, li_4, li_5, li_6, li_7, li_8, li_9, li_10, li_20, li_40, li_99, li_100, li_255, li_899, li_999, li_m1, li_m2, li_m3, li_m4, li_m11, li_m12, li_m13, li_m14, li_m100] at h1 h13 h19 h30 htd ⊢) <;> omega)))) h)
          · obtain rfl : x2 = 2 := i_eq.mpr h9
            refine x_tableIn (pc := 47) C 93 dX11_told_47 (by decide) (by decide) rfl (by decide) ?_
            refine x_aload_n (pc := 93) C 0 dX11_told_93 rfl ?_
            refine g_Disk_since (pc := 94) C E (by omega) q12_17 dX11_told_94 ?_
            refine x_eq (show M (62 + 3 * (6 * 0 + d)) 2 = vS (sV σ) d from rc_since h (by omega)) ?_
            exact x_iret (pc := 97) C X dX11_told_97 (fia (by
                  unfold a_told
                  simp only [hod]
                  repeat (first | with_reducible rfl | (refine (if_pos ?_).trans ?_; ((try simp only [inB_t, inB_f, i_lt, i_le, i_eq, ne_eq, Bool.not_eq_true, Bool.not_eq_false, hpB, decide_eq_true_eq, decide_eq_false_iff_not, li_0, li_1, li_2, li_3, li_4, li_5, li_6, li_7, li_8, li_9, li_10, li_20, li_40, li_99, li_100, li_255, li_899, li_999, li_m1, li_m2, li_m3, li_m4, li_m11, li_m12, li_m13, li_m14, li_m100] at h1 h13 h19 h30 htd ⊢) <;> omega)) | (refine (if_neg ?_).trans ?_; ((try simp only [inB_t, inB_f, i_lt, i_le, i_eq, ne_eq, Bool.not_eq_true, Bool.not_eq_false, hpB, decide_eq_true_eq, decide_eq_false_iff_not, li_0, li_1, li_2, li_3, li_4, li_5, li_6, li_7, li_8, li_9, li_10, li_20, li_40, li_99, li_100, li_255, li_899, li_999, li_m1, li_m2, li_m3, li_m4, li_m11, li_m12, li_m13, li_m14, li_m100] at h1 h13 h19 h30 htd ⊢) <;> omega)) | fail)
                  all_goals (first | with_reducible rfl | (exfalso; ((try simp only [inB_t, inB_f, i_lt, i_le, i_eq, ne_eq, Bool.not_eq_true, Bool.not_eq_false, hpB, decide_eq_true_eq, decide_eq_false_iff_not, li_0, li_1, li_2, li_3, li_4, li_5, li_6, li_7, li_8, li_9, li_10, li_20, li_40, li_99, li_100, li_255, li_899, li_999, li_m1, li_m2, li_m3, li_m4, li_m11, li_m12, li_m13, li_m14, li_m100] at h1 h13 h19 h30 htd ⊢) <;> omega)))) h)
          · obtain rfl : x2 = 3 := i_eq.mpr h9
            refine x_tableIn (pc := 47) C 98 dX11_told_47 (by decide) (by decide) rfl (by decide) ?_
            refine x_aload_n (pc := 98) C 0 dX11_told_98 rfl ?_
            refine g_Disk_kind (pc := 99) C E (by omega) q20_5 dX11_told_99 ?_
            refine g_kind_code (pc := 102) C E hk q20_6 dX11_told_102 ?_
            refine x_eq (show nI ((M (62 + 3 * (6 * 0 + d)) 0).toNatClampNeg) = nI (vK (sV σ) d) from by rw [rc_kd h hd]) ?_
            exact x_iret (pc := 105) C X dX11_told_105 (fia (by
                  unfold a_told
                  simp only [hod]
                  repeat (first | with_reducible rfl | (refine (if_pos ?_).trans ?_; ((try simp only [inB_t, inB_f, i_lt, i_le, i_eq, ne_eq, Bool.not_eq_true, Bool.not_eq_false, hpB, decide_eq_true_eq, decide_eq_false_iff_not, li_0, li_1, li_2, li_3, li_4, li_5, li_6, li_7, li_8, li_9, li_10, li_20, li_40, li_99, li_100, li_255, li_899, li_999, li_m1, li_m2, li_m3, li_m4, li_m11, li_m12, li_m13, li_m14, li_m100] at h1 h13 h19 h30 htd ⊢) <;> omega)) | (refine (if_neg ?_).trans ?_; ((try simp only [inB_t, inB_f, i_lt, i_le, i_eq, ne_eq, Bool.not_eq_true, Bool.not_eq_false, hpB, decide_eq_true_eq, decide_eq_false_iff_not, li_0, li_1, li_2, li_3, li_4, li_5, li_6, li_7, li_8, li_9, li_10, li_20, li_40, li_99, li_100, li_255, li_899, li_999, li_m1, li_m2, li_m3, li_m4, li_m11, li_m12, li_m13, li_m14, li_m100] at h1 h13 h19 h30 htd ⊢) <;> omega)) | fail)
                  all_goals (first | with_reducible rfl | (exfalso; ((try simp only [inB_t, inB_f, i_lt, i_le, i_eq, ne_eq, Bool.not_eq_true, Bool.not_eq_false, hpB, decide_eq_true_eq, decide_eq_false_iff_not, li_0, li_1, li_2, li_3, li_4, li_5, li_6, li_7, li_8, li_9, li_10, li_20, li_40, li_99, li_100, li_255, li_899, li_999, li_m1, li_m2, li_m3, li_m4, li_m11, li_m12, li_m13, li_m14, li_m100] at h1 h13 h19 h30 htd ⊢) <;> omega)))) h)
          · obtain rfl : x2 = 4 := i_eq.mpr h9
            refine x_tableIn (pc := 47) C 106 dX11_told_47 (by decide) (by decide) rfl (by decide) ?_
            refine x_aload_n (pc := 106) C 0 dX11_told_106 rfl ?_
            refine x_aload_n (pc := 107) C 1 dX11_told_107 rfl ?_
            refine g_main_now (pc := 108) C E q2_1 dX11_told_108 ?_
            refine g_World_day (pc := 111) C E (i := 0) (by omega) q12_14 dX11_told_111 ?_
            refine x_eq (show M (7 + 0) 0 = vD (sV σ) from rc_day h) ?_
            refine x_callV (pc := 114) C E [.int (vD (sV σ))] [] (w_readsOn t (by decide : 0 < 3) h.2.1 (by omega) rfl) m_X2_readsOn q20_8 (xo_Disk (by omega)) rfl (by decide) (Nat.le_of_ble_eq_true rfl) dX11_told_114 rfl (k_I ?_)
            refine x_ifb_eq (pc := 117) C 124 dX11_told_117 (by decide) (fun h117 => ?_) (fun h117 => ?_)
            · refine x_iconst (pc := 124) (v := 0) C dX11_told_124 rfl ?_
              exact x_iret (pc := 125) C X dX11_told_125 (fia (by
                    unfold a_told
                    simp only [hod]
                    repeat (first | with_reducible rfl | (refine (if_pos ?_).trans ?_; ((try simp only [inB_t, inB_f, i_lt, i_le, i_eq, ne_eq, Bool.not_eq_true, Bool.not_eq_false, hpB, decide_eq_true_eq, decide_eq_false_iff_not, li_0, li_1, li_2, li_3, li_4, li_5, li_6, li_7, li_8, li_9, li_10, li_20, li_40, li_99, li_100, li_255, li_899, li_999, li_m1, li_m2, li_m3, li_m4, li_m11, li_m12, li_m13, li_m14, li_m100] at h1 h13 h19 h30 htd h117 ⊢) <;> omega)) | (refine (if_neg ?_).trans ?_; ((try simp only [inB_t, inB_f, i_lt, i_le, i_eq, ne_eq, Bool.not_eq_true, Bool.not_eq_false, hpB, decide_eq_true_eq, decide_eq_false_iff_not, li_0, li_1, li_2, li_3, li_4, li_5, li_6, li_7, li_8, li_9, li_10, li_20, li_40, li_99, li_100, li_255, li_899, li_999, li_m1, li_m2, li_m3, li_m4, li_m11, li_m12, li_m13, li_m14, li_m100] at h1 h13 h19 h30 htd h117 ⊢) <;> omega)) | fail)
                    all_goals (first | with_reducible rfl | (exfalso; ((try simp only [inB_t, inB_f, i_lt, i_le, i_eq, ne_eq, Bool.not_eq_true, Bool.not_eq_false, hpB, decide_eq_true_eq, decide_eq_false_iff_not, li_0, li_1, li_2, li_3, li_4, li_5, li_6, li_7, li_8, li_9, li_10, li_20, li_40, li_99, li_100, li_255, li_899, li_999, li_m1, li_m2, li_m3, li_m4, li_m11, li_m12, li_m13, li_m14, li_m100] at h1 h13 h19 h30 htd h117 ⊢) <;> omega)))) h)
            · refine x_iconst (pc := 120) (v := 1) C dX11_told_120 rfl ?_
              refine x_goto (pc := 121) C 125 dX11_told_121 (by decide) ?_
              exact x_iret (pc := 125) C X dX11_told_125 (fia (by
                    unfold a_told
                    simp only [hod]
                    repeat (first | with_reducible rfl | (refine (if_pos ?_).trans ?_; ((try simp only [inB_t, inB_f, i_lt, i_le, i_eq, ne_eq, Bool.not_eq_true, Bool.not_eq_false, hpB, decide_eq_true_eq, decide_eq_false_iff_not, li_0, li_1, li_2, li_3, li_4, li_5, li_6, li_7, li_8, li_9, li_10, li_20, li_40, li_99, li_100, li_255, li_899, li_999, li_m1, li_m2, li_m3, li_m4, li_m11, li_m12, li_m13, li_m14, li_m100] at h1 h13 h19 h30 htd h117 ⊢) <;> omega)) | (refine (if_neg ?_).trans ?_; ((try simp only [inB_t, inB_f, i_lt, i_le, i_eq, ne_eq, Bool.not_eq_true, Bool.not_eq_false, hpB, decide_eq_true_eq, decide_eq_false_iff_not, li_0, li_1, li_2, li_3, li_4, li_5, li_6, li_7, li_8, li_9, li_10, li_20, li_40, li_99, li_100, li_255, li_899, li_999, li_m1, li_m2, li_m3, li_m4, li_m11, li_m12, li_m13, li_m14, li_m100] at h1 h13 h19 h30 htd h117 ⊢) <;> omega)) | fail)
                    all_goals (first | with_reducible rfl | (exfalso; ((try simp only [inB_t, inB_f, i_lt, i_le, i_eq, ne_eq, Bool.not_eq_true, Bool.not_eq_false, hpB, decide_eq_true_eq, decide_eq_false_iff_not, li_0, li_1, li_2, li_3, li_4, li_5, li_6, li_7, li_8, li_9, li_10, li_20, li_40, li_99, li_100, li_255, li_899, li_999, li_m1, li_m2, li_m3, li_m4, li_m11, li_m12, li_m13, li_m14, li_m100] at h1 h13 h19 h30 htd h117 ⊢) <;> omega)))) h)
          · obtain rfl : x2 = 5 := i_eq.mpr h9
            refine x_tableIn (pc := 47) C 126 dX11_told_47 (by decide) (by decide) rfl (by decide) ?_
            refine x_aload_n (pc := 126) C 0 dX11_told_126 rfl ?_
            refine g_Disk_kind (pc := 127) C E (by omega) q20_5 dX11_told_127 ?_
            refine x_aload_n (pc := 130) C 1 dX11_told_130 rfl ?_
            refine g_main_now (pc := 131) C E q2_1 dX11_told_131 ?_
            refine g_World_day (pc := 134) C E (i := 0) (by omega) q12_14 dX11_told_134 ?_
            refine x_eq (show M (7 + 0) 0 = vD (sV σ) from rc_day h) ?_
            refine x_aload_n (pc := 137) C 0 dX11_told_137 rfl ?_
            refine g_Disk_number (pc := 138) C E (by omega) q12_16 dX11_told_138 ?_
            refine x_eq (show M (62 + 3 * (6 * 0 + d)) 1 = vU (sV σ) d from rc_num h (by omega)) ?_
            refine x_kstampOn (pc := 141) C E hk (vD (sV σ)) (vU (sV σ) d) q22_3 (by decide) (Nat.le_of_ble_eq_true rfl) dX11_told_141 ?_
            refine x_eq (show kStamp ((M (62 + 3 * (6 * 0 + d)) 0).toNatClampNeg) (vD (sV σ)) (vU (sV σ) d) = kStamp (vK (sV σ) d) (vD (sV σ)) (vU (sV σ) d) from by rw [rc_kd h (by omega)]) ?_
            exact x_iret (pc := 144) C X dX11_told_144 (fia (by
                  unfold a_told
                  simp only [hod]
                  repeat (first | with_reducible rfl | (refine (if_pos ?_).trans ?_; ((try simp only [inB_t, inB_f, i_lt, i_le, i_eq, ne_eq, Bool.not_eq_true, Bool.not_eq_false, hpB, decide_eq_true_eq, decide_eq_false_iff_not, li_0, li_1, li_2, li_3, li_4, li_5, li_6, li_7, li_8, li_9, li_10, li_20, li_40, li_99, li_100, li_255, li_899, li_999, li_m1, li_m2, li_m3, li_m4, li_m11, li_m12, li_m13, li_m14, li_m100] at h1 h13 h19 h30 htd ⊢) <;> omega)) | (refine (if_neg ?_).trans ?_; ((try simp only [inB_t, inB_f, i_lt, i_le, i_eq, ne_eq, Bool.not_eq_true, Bool.not_eq_false, hpB, decide_eq_true_eq, decide_eq_false_iff_not, li_0, li_1, li_2, li_3, li_4, li_5, li_6, li_7, li_8, li_9, li_10, li_20, li_40, li_99, li_100, li_255, li_899, li_999, li_m1, li_m2, li_m3, li_m4, li_m11, li_m12, li_m13, li_m14, li_m100] at h1 h13 h19 h30 htd ⊢) <;> omega)) | fail)
                  all_goals (first | with_reducible rfl | (exfalso; ((try simp only [inB_t, inB_f, i_lt, i_le, i_eq, ne_eq, Bool.not_eq_true, Bool.not_eq_false, hpB, decide_eq_true_eq, decide_eq_false_iff_not, li_0, li_1, li_2, li_3, li_4, li_5, li_6, li_7, li_8, li_9, li_10, li_20, li_40, li_99, li_100, li_255, li_899, li_999, li_m1, li_m2, li_m3, li_m4, li_m11, li_m12, li_m13, li_m14, li_m100] at h1 h13 h19 h30 htd ⊢) <;> omega)))) h)
          · obtain rfl : x2 = 6 := i_eq.mpr h9
            refine x_tableIn (pc := 47) C 145 dX11_told_47 (by decide) (by decide) rfl (by decide) ?_
            refine x_aload_n (pc := 145) C 0 dX11_told_145 rfl ?_
            refine g_Disk_kind (pc := 146) C E (by omega) q20_5 dX11_told_146 ?_
            refine x_aload_n (pc := 149) C 0 dX11_told_149 rfl ?_
            refine g_Disk_number (pc := 150) C E (by omega) q12_16 dX11_told_150 ?_
            refine x_eq (show M (62 + 3 * (6 * 0 + d)) 1 = vU (sV σ) d from rc_num h (by omega)) ?_
            refine x_kroomBy (pc := 153) C E hk (vU (sV σ) d) q23_1 (by decide) (Nat.le_of_ble_eq_true rfl) dX11_told_153 ?_
            refine x_eq (show kRoom ((M (62 + 3 * (6 * 0 + d)) 0).toNatClampNeg) (vU (sV σ) d) = kRoom (vK (sV σ) d) (vU (sV σ) d) from by rw [rc_kd h (by omega)]) ?_
            exact x_iret (pc := 156) C X dX11_told_156 (fia (by
                  unfold a_told
                  simp only [hod]
                  repeat (first | with_reducible rfl | (refine (if_pos ?_).trans ?_; ((try simp only [inB_t, inB_f, i_lt, i_le, i_eq, ne_eq, Bool.not_eq_true, Bool.not_eq_false, hpB, decide_eq_true_eq, decide_eq_false_iff_not, li_0, li_1, li_2, li_3, li_4, li_5, li_6, li_7, li_8, li_9, li_10, li_20, li_40, li_99, li_100, li_255, li_899, li_999, li_m1, li_m2, li_m3, li_m4, li_m11, li_m12, li_m13, li_m14, li_m100] at h1 h13 h19 h30 htd ⊢) <;> omega)) | (refine (if_neg ?_).trans ?_; ((try simp only [inB_t, inB_f, i_lt, i_le, i_eq, ne_eq, Bool.not_eq_true, Bool.not_eq_false, hpB, decide_eq_true_eq, decide_eq_false_iff_not, li_0, li_1, li_2, li_3, li_4, li_5, li_6, li_7, li_8, li_9, li_10, li_20, li_40, li_99, li_100, li_255, li_899, li_999, li_m1, li_m2, li_m3, li_m4, li_m11, li_m12, li_m13, li_m14, li_m100] at h1 h13 h19 h30 htd ⊢) <;> omega)) | fail)
                  all_goals (first | with_reducible rfl | (exfalso; ((try simp only [inB_t, inB_f, i_lt, i_le, i_eq, ne_eq, Bool.not_eq_true, Bool.not_eq_false, hpB, decide_eq_true_eq, decide_eq_false_iff_not, li_0, li_1, li_2, li_3, li_4, li_5, li_6, li_7, li_8, li_9, li_10, li_20, li_40, li_99, li_100, li_255, li_899, li_999, li_m1, li_m2, li_m3, li_m4, li_m11, li_m12, li_m13, li_m14, li_m100] at h1 h13 h19 h30 htd ⊢) <;> omega)))) h)
          · obtain rfl : x2 = 7 := i_eq.mpr h9
            refine x_tableIn (pc := 47) C 157 dX11_told_47 (by decide) (by decide) rfl (by decide) ?_
            refine x_aload_n (pc := 157) C 0 dX11_told_157 rfl ?_
            refine g_Disk_held (pc := 158) C E (by omega) q20_7 dX11_told_158 ?_
            refine x_eq (show M (62 + 3 * (6 * 0 + d)) 3 = mk (vHas (sV σ) d) 8 from rc_held h (by omega)) ?_
            refine x_callS (pc := 161) C E [.int (mk (vHas (sV σ) d) 8)] [] (c_bitCount t _ _) m_J6_bitCount_0f7a4 q23_8 rfl (by decide) (Nat.le_of_ble_eq_true rfl) dX11_told_161 rfl (k_I ?_)
            refine x_eq (show jbc (mk (vHas (sV σ) d) 8) = nI (vCn (sV σ) d) from jbc_mk _) ?_
            exact x_iret (pc := 164) C X dX11_told_164 (fia (by
                  unfold a_told
                  simp only [hod]
                  repeat (first | with_reducible rfl | (refine (if_pos ?_).trans ?_; ((try simp only [inB_t, inB_f, i_lt, i_le, i_eq, ne_eq, Bool.not_eq_true, Bool.not_eq_false, hpB, decide_eq_true_eq, decide_eq_false_iff_not, li_0, li_1, li_2, li_3, li_4, li_5, li_6, li_7, li_8, li_9, li_10, li_20, li_40, li_99, li_100, li_255, li_899, li_999, li_m1, li_m2, li_m3, li_m4, li_m11, li_m12, li_m13, li_m14, li_m100] at h1 h13 h19 h30 htd ⊢) <;> omega)) | (refine (if_neg ?_).trans ?_; ((try simp only [inB_t, inB_f, i_lt, i_le, i_eq, ne_eq, Bool.not_eq_true, Bool.not_eq_false, hpB, decide_eq_true_eq, decide_eq_false_iff_not, li_0, li_1, li_2, li_3, li_4, li_5, li_6, li_7, li_8, li_9, li_10, li_20, li_40, li_99, li_100, li_255, li_899, li_999, li_m1, li_m2, li_m3, li_m4, li_m11, li_m12, li_m13, li_m14, li_m100] at h1 h13 h19 h30 htd ⊢) <;> omega)) | fail)
                  all_goals (first | with_reducible rfl | (exfalso; ((try simp only [inB_t, inB_f, i_lt, i_le, i_eq, ne_eq, Bool.not_eq_true, Bool.not_eq_false, hpB, decide_eq_true_eq, decide_eq_false_iff_not, li_0, li_1, li_2, li_3, li_4, li_5, li_6, li_7, li_8, li_9, li_10, li_20, li_40, li_99, li_100, li_255, li_899, li_999, li_m1, li_m2, li_m3, li_m4, li_m11, li_m12, li_m13, li_m14, li_m100] at h1 h13 h19 h30 htd ⊢) <;> omega)))) h)
          · obtain rfl : x2 = 8 := i_eq.mpr h9
            refine x_tableOut (pc := 47) C 165 dX11_told_47 (by decide) (by decide) ?_
            refine x_aload_n (pc := 165) C 1 dX11_told_165 rfl ?_
            refine x_callV (pc := 166) C E [] [] (c_X11_rule t h) m_X11_rule q23_15 xo_main rfl (by decide) (Nat.le_of_ble_eq_true rfl) dX11_told_166 rfl (k_A ?_)
            refine x_aload_n (pc := 169) C 0 dX11_told_169 rfl ?_
            refine g_Disk_number (pc := 170) C E (by omega) q12_16 dX11_told_170 ?_
            refine x_eq (show M (62 + 3 * (6 * 0 + d)) 1 = vU (sV σ) d from rc_num h (by omega)) ?_
            refine x_aload_n (pc := 173) C 1 dX11_told_173 rfl ?_
            refine g_main_now (pc := 174) C E q2_1 dX11_told_174 ?_
            refine g_World_day (pc := 177) C E (i := 0) (by omega) q12_14 dX11_told_177 ?_
            refine x_eq (show M (7 + 0) 0 = vD (sV σ) from rc_day h) ?_
            refine x_callV (pc := 180) C E [.int (vU (sV σ) d), .int (vD (sV σ))] [] (c_likely t h (rc_q h) _ _ rfl) m_X6_likelihood q23_20 (xo_Rule (by omega)) rfl (by decide) (Nat.le_of_ble_eq_true rfl) dX11_told_180 rfl (fun r M180 hc180 => ?_)
            obtain ⟨rfl, hR180⟩ := hc180
            show XV κ (xP (wC t) M180) 183 _ [.int (sLi σ (vR (sV σ)) (vU (sV σ) d))]
            exact x_iret (pc := 183) C X dX11_told_183 (fia (by
                  unfold a_told
                  simp only [hod]
                  repeat (first | with_reducible rfl | (refine (if_pos ?_).trans ?_; ((try simp only [inB_t, inB_f, i_lt, i_le, i_eq, ne_eq, Bool.not_eq_true, Bool.not_eq_false, hpB, decide_eq_true_eq, decide_eq_false_iff_not, li_0, li_1, li_2, li_3, li_4, li_5, li_6, li_7, li_8, li_9, li_10, li_20, li_40, li_99, li_100, li_255, li_899, li_999, li_m1, li_m2, li_m3, li_m4, li_m11, li_m12, li_m13, li_m14, li_m100] at h1 h13 h19 h30 htd ⊢) <;> omega)) | (refine (if_neg ?_).trans ?_; ((try simp only [inB_t, inB_f, i_lt, i_le, i_eq, ne_eq, Bool.not_eq_true, Bool.not_eq_false, hpB, decide_eq_true_eq, decide_eq_false_iff_not, li_0, li_1, li_2, li_3, li_4, li_5, li_6, li_7, li_8, li_9, li_10, li_20, li_40, li_99, li_100, li_255, li_899, li_999, li_m1, li_m2, li_m3, li_m4, li_m11, li_m12, li_m13, li_m14, li_m100] at h1 h13 h19 h30 htd ⊢) <;> omega)) | fail)
                  all_goals (first | with_reducible rfl | (exfalso; ((try simp only [inB_t, inB_f, i_lt, i_le, i_eq, ne_eq, Bool.not_eq_true, Bool.not_eq_false, hpB, decide_eq_true_eq, decide_eq_false_iff_not, li_0, li_1, li_2, li_3, li_4, li_5, li_6, li_7, li_8, li_9, li_10, li_20, li_40, li_99, li_100, li_255, li_899, li_999, li_m1, li_m2, li_m3, li_m4, li_m11, li_m12, li_m13, li_m14, li_m100] at h1 h13 h19 h30 htd ⊢) <;> omega)))) hR180)
        · refine x_bipush (pc := 33) (v := (-2)) C dX11_told_33 rfl ?_
          exact x_iret (pc := 35) C X dX11_told_35 (fia (by
                unfold a_told
                repeat (first | with_reducible rfl | (refine (if_pos ?_).trans ?_; ((try simp only [inB_t, inB_f, i_lt, i_le, i_eq, ne_eq, Bool.not_eq_true, Bool.not_eq_false, hpB, decide_eq_true_eq, decide_eq_false_iff_not, li_0, li_1, li_2, li_3, li_4, li_5, li_6, li_7, li_8, li_9, li_10, li_20, li_40, li_99, li_100, li_255, li_899, li_999, li_m1, li_m2, li_m3, li_m4, li_m11, li_m12, li_m13, li_m14, li_m100] at h1 h13 h19 h30 ⊢) <;> omega)) | (refine (if_neg ?_).trans ?_; ((try simp only [inB_t, inB_f, i_lt, i_le, i_eq, ne_eq, Bool.not_eq_true, Bool.not_eq_false, hpB, decide_eq_true_eq, decide_eq_false_iff_not, li_0, li_1, li_2, li_3, li_4, li_5, li_6, li_7, li_8, li_9, li_10, li_20, li_40, li_99, li_100, li_255, li_899, li_999, li_m1, li_m2, li_m3, li_m4, li_m11, li_m12, li_m13, li_m14, li_m100] at h1 h13 h19 h30 ⊢) <;> omega)) | fail)
                all_goals (first | with_reducible rfl | (exfalso; ((try simp only [inB_t, inB_f, i_lt, i_le, i_eq, ne_eq, Bool.not_eq_true, Bool.not_eq_false, hpB, decide_eq_true_eq, decide_eq_false_iff_not, li_0, li_1, li_2, li_3, li_4, li_5, li_6, li_7, li_8, li_9, li_10, li_20, li_40, li_99, li_100, li_255, li_899, li_999, li_m1, li_m2, li_m3, li_m4, li_m11, li_m12, li_m13, li_m14, li_m100] at h1 h13 h19 h30 ⊢) <;> omega)))) h)
  · refine x_aload_n (pc := 4) C 0 dX11_told_4 rfl ?_
    refine g_main_now (pc := 5) C E q2_1 dX11_told_5 ?_
    refine g_World_day (pc := 8) C E (i := 0) (by omega) q12_14 dX11_told_8 ?_
    refine x_eq (show M (7 + 0) 0 = vD (sV σ) from rc_day h) ?_
    exact x_iret (pc := 11) C X dX11_told_11 (fia (by
          unfold a_told
          repeat (first | with_reducible rfl | (refine (if_pos ?_).trans ?_; ((try simp only [inB_t, inB_f, i_lt, i_le, i_eq, ne_eq, Bool.not_eq_true, Bool.not_eq_false, hpB, decide_eq_true_eq, decide_eq_false_iff_not, li_0, li_1, li_2, li_3, li_4, li_5, li_6, li_7, li_8, li_9, li_10, li_20, li_40, li_99, li_100, li_255, li_899, li_999, li_m1, li_m2, li_m3, li_m4, li_m11, li_m12, li_m13, li_m14, li_m100] at h1 ⊢) <;> omega)) | (refine (if_neg ?_).trans ?_; ((try simp only [inB_t, inB_f, i_lt, i_le, i_eq, ne_eq, Bool.not_eq_true, Bool.not_eq_false, hpB, decide_eq_true_eq, decide_eq_false_iff_not, li_0, li_1, li_2, li_3, li_4, li_5, li_6, li_7, li_8, li_9, li_10, li_20, li_40, li_99, li_100, li_255, li_899, li_999, li_m1, li_m2, li_m3, li_m4, li_m11, li_m12, li_m13, li_m14, li_m100] at h1 ⊢) <;> omega)) | fail)
          all_goals (first | with_reducible rfl | (exfalso; ((try simp only [inB_t, inB_f, i_lt, i_le, i_eq, ne_eq, Bool.not_eq_true, Bool.not_eq_false, hpB, decide_eq_true_eq, decide_eq_false_iff_not, li_0, li_1, li_2, li_3, li_4, li_5, li_6, li_7, li_8, li_9, li_10, li_20, li_40, li_99, li_100, li_255, li_899, li_999, li_m1, li_m2, li_m3, li_m4, li_m11, li_m12, li_m13, li_m14, li_m100] at h1 ⊢) <;> omega)))) h)

set_option maxRecDepth 100000 in
set_option maxHeartbeats 4000000 in
theorem c_X11_set (t : CT) {σ : SV} {M : MM} (h : RC σ M)(x1 x2 x3 : Int32) : XMet (wC t) yX11_set cX11_set 5 (some .int) 2 [.ref (t.1 0), .int x1, .int x2, .int x3] M (oR (o_set σ x1 x2 x3)) := by
  refine x_met RX11 (by decide) rfl (Nat.le_of_ble_eq_true rfl) (fun κ C X E => ?_)
  refine x_L (L' := [(0, .ref (t.1 0)), (1, .int x1), (2, .int x2), (3, .int x3)]) rfl ?_
  have hn6 := rc_n6 h
  have hq6 := rc_q6 h
  have hq := rc_q h
  have hN6 := h.1.1
  have hB := h.1.2.1
  refine x_iload_n (pc := 0) C 1 dX11_set_0 rfl ?_
  refine x_if_lt (pc := 1) C 24 dX11_set_1 (by decide) (fun h1 => ?_) (fun h1 => ?_)
  · refine x_bipush (pc := 24) (v := (-2)) C dX11_set_24 rfl ?_
    exact x_iret (pc := 26) C X dX11_set_26 (fin (by
          unfold o_set
          repeat (first | with_reducible rfl | (refine (if_pos ?_).trans ?_; ((try simp only [inB_t, inB_f, i_lt, i_le, i_eq, ne_eq, Bool.not_eq_true, Bool.not_eq_false, hpB, decide_eq_true_eq, decide_eq_false_iff_not, li_0, li_1, li_2, li_3, li_4, li_5, li_6, li_7, li_8, li_9, li_10, li_20, li_40, li_99, li_100, li_255, li_899, li_999, li_m1, li_m2, li_m3, li_m4, li_m11, li_m12, li_m13, li_m14, li_m100] at h1 ⊢) <;> omega)) | (refine (if_neg ?_).trans ?_; ((try simp only [inB_t, inB_f, i_lt, i_le, i_eq, ne_eq, Bool.not_eq_true, Bool.not_eq_false, hpB, decide_eq_true_eq, decide_eq_false_iff_not, li_0, li_1, li_2, li_3, li_4, li_5, li_6, li_7, li_8, li_9, li_10, li_20, li_40, li_99, li_100, li_255, li_899, li_999, li_m1, li_m2, li_m3, li_m4, li_m11, li_m12, li_m13, li_m14, li_m100] at h1 ⊢) <;> omega)) | fail)
          all_goals (first | with_reducible rfl | (exfalso; ((try simp only [inB_t, inB_f, i_lt, i_le, i_eq, ne_eq, Bool.not_eq_true, Bool.not_eq_false, hpB, decide_eq_true_eq, decide_eq_false_iff_not, li_0, li_1, li_2, li_3, li_4, li_5, li_6, li_7, li_8, li_9, li_10, li_20, li_40, li_99, li_100, li_255, li_899, li_999, li_m1, li_m2, li_m3, li_m4, li_m11, li_m12, li_m13, li_m14, li_m100] at h1 ⊢) <;> omega)))) h)
  · refine x_iload_n (pc := 4) C 1 dX11_set_4 rfl ?_
    refine x_iconst (pc := 5) (v := 2) C dX11_set_5 rfl ?_
    refine x_icmp_gt (pc := 6) C 24 dX11_set_6 (by decide) (fun h6 => ?_) (fun h6 => ?_)
    · refine x_bipush (pc := 24) (v := (-2)) C dX11_set_24 rfl ?_
      exact x_iret (pc := 26) C X dX11_set_26 (fin (by
            unfold o_set
            repeat (first | with_reducible rfl | (refine (if_pos ?_).trans ?_; ((try simp only [inB_t, inB_f, i_lt, i_le, i_eq, ne_eq, Bool.not_eq_true, Bool.not_eq_false, hpB, decide_eq_true_eq, decide_eq_false_iff_not, li_0, li_1, li_2, li_3, li_4, li_5, li_6, li_7, li_8, li_9, li_10, li_20, li_40, li_99, li_100, li_255, li_899, li_999, li_m1, li_m2, li_m3, li_m4, li_m11, li_m12, li_m13, li_m14, li_m100] at h1 h6 ⊢) <;> omega)) | (refine (if_neg ?_).trans ?_; ((try simp only [inB_t, inB_f, i_lt, i_le, i_eq, ne_eq, Bool.not_eq_true, Bool.not_eq_false, hpB, decide_eq_true_eq, decide_eq_false_iff_not, li_0, li_1, li_2, li_3, li_4, li_5, li_6, li_7, li_8, li_9, li_10, li_20, li_40, li_99, li_100, li_255, li_899, li_999, li_m1, li_m2, li_m3, li_m4, li_m11, li_m12, li_m13, li_m14, li_m100] at h1 h6 ⊢) <;> omega)) | fail)
            all_goals (first | with_reducible rfl | (exfalso; ((try simp only [inB_t, inB_f, i_lt, i_le, i_eq, ne_eq, Bool.not_eq_true, Bool.not_eq_false, hpB, decide_eq_true_eq, decide_eq_false_iff_not, li_0, li_1, li_2, li_3, li_4, li_5, li_6, li_7, li_8, li_9, li_10, li_20, li_40, li_99, li_100, li_255, li_899, li_999, li_m1, li_m2, li_m3, li_m4, li_m11, li_m12, li_m13, li_m14, li_m100] at h1 h6 ⊢) <;> omega)))) h)
    · refine x_iload_n (pc := 9) C 1 dX11_set_9 rfl ?_
      refine x_if_eq (pc := 10) C 27 dX11_set_10 (by decide) (fun h10 => ?_) (fun h10 => ?_)
      · refine x_iload_n (pc := 27) C 3 dX11_set_27 rfl ?_
        refine x_if_lt (pc := 28) C 49 dX11_set_28 (by decide) (fun h28 => ?_) (fun h28 => ?_)
        · refine x_bipush (pc := 49) (v := (-2)) C dX11_set_49 rfl ?_
          exact x_iret (pc := 51) C X dX11_set_51 (fin (by
                unfold o_set
                repeat (first | with_reducible rfl | (refine (if_pos ?_).trans ?_; ((try simp only [inB_t, inB_f, i_lt, i_le, i_eq, ne_eq, Bool.not_eq_true, Bool.not_eq_false, hpB, decide_eq_true_eq, decide_eq_false_iff_not, li_0, li_1, li_2, li_3, li_4, li_5, li_6, li_7, li_8, li_9, li_10, li_20, li_40, li_99, li_100, li_255, li_899, li_999, li_m1, li_m2, li_m3, li_m4, li_m11, li_m12, li_m13, li_m14, li_m100] at h1 h6 h10 h28 ⊢) <;> omega)) | (refine (if_neg ?_).trans ?_; ((try simp only [inB_t, inB_f, i_lt, i_le, i_eq, ne_eq, Bool.not_eq_true, Bool.not_eq_false, hpB, decide_eq_true_eq, decide_eq_false_iff_not, li_0, li_1, li_2, li_3, li_4, li_5, li_6, li_7, li_8, li_9, li_10, li_20, li_40, li_99, li_100, li_255, li_899, li_999, li_m1, li_m2, li_m3, li_m4, li_m11, li_m12, li_m13, li_m14, li_m100] at h1 h6 h10 h28 ⊢) <;> omega)) | fail)
                all_goals (first | with_reducible rfl | (exfalso; ((try simp only [inB_t, inB_f, i_lt, i_le, i_eq, ne_eq, Bool.not_eq_true, Bool.not_eq_false, hpB, decide_eq_true_eq, decide_eq_false_iff_not, li_0, li_1, li_2, li_3, li_4, li_5, li_6, li_7, li_8, li_9, li_10, li_20, li_40, li_99, li_100, li_255, li_899, li_999, li_m1, li_m2, li_m3, li_m4, li_m11, li_m12, li_m13, li_m14, li_m100] at h1 h6 h10 h28 ⊢) <;> omega)))) h)
        · refine x_iload_n (pc := 31) C 3 dX11_set_31 rfl ?_
          refine x_sipush (pc := 32) (v := 999) C dX11_set_32 rfl ?_
          refine x_icmp_gt (pc := 35) C 49 dX11_set_35 (by decide) (fun h35 => ?_) (fun h35 => ?_)
          · refine x_bipush (pc := 49) (v := (-2)) C dX11_set_49 rfl ?_
            exact x_iret (pc := 51) C X dX11_set_51 (fin (by
                  unfold o_set
                  repeat (first | with_reducible rfl | (refine (if_pos ?_).trans ?_; ((try simp only [inB_t, inB_f, i_lt, i_le, i_eq, ne_eq, Bool.not_eq_true, Bool.not_eq_false, hpB, decide_eq_true_eq, decide_eq_false_iff_not, li_0, li_1, li_2, li_3, li_4, li_5, li_6, li_7, li_8, li_9, li_10, li_20, li_40, li_99, li_100, li_255, li_899, li_999, li_m1, li_m2, li_m3, li_m4, li_m11, li_m12, li_m13, li_m14, li_m100] at h1 h6 h10 h28 h35 ⊢) <;> omega)) | (refine (if_neg ?_).trans ?_; ((try simp only [inB_t, inB_f, i_lt, i_le, i_eq, ne_eq, Bool.not_eq_true, Bool.not_eq_false, hpB, decide_eq_true_eq, decide_eq_false_iff_not, li_0, li_1, li_2, li_3, li_4, li_5, li_6, li_7, li_8, li_9, li_10, li_20, li_40, li_99, li_100, li_255, li_899, li_999, li_m1, li_m2, li_m3, li_m4, li_m11, li_m12, li_m13, li_m14, li_m100] at h1 h6 h10 h28 h35 ⊢) <;> omega)) | fail)
                  all_goals (first | with_reducible rfl | (exfalso; ((try simp only [inB_t, inB_f, i_lt, i_le, i_eq, ne_eq, Bool.not_eq_true, Bool.not_eq_false, hpB, decide_eq_true_eq, decide_eq_false_iff_not, li_0, li_1, li_2, li_3, li_4, li_5, li_6, li_7, li_8, li_9, li_10, li_20, li_40, li_99, li_100, li_255, li_899, li_999, li_m1, li_m2, li_m3, li_m4, li_m11, li_m12, li_m13, li_m14, li_m100] at h1 h6 h10 h28 h35 ⊢) <;> omega)))) h)
          · refine x_iload_n (pc := 38) C 1 dX11_set_38 rfl ?_
            refine x_iconst (pc := 39) (v := 1) C dX11_set_39 rfl ?_
            refine x_icmp_ne (pc := 40) C 52 dX11_set_40 (by decide) (fun h40 => ?_) (fun h40 => ?_)
            · refine x_iload_n (pc := 52) C 1 dX11_set_52 rfl ?_
              refine x_if_ne_f (pc := 53) C 76 dX11_set_53 (by decide) h10 ?_
              refine x_aload_n (pc := 56) C 0 dX11_set_56 rfl ?_
              refine g_main_now (pc := 57) C E q2_1 dX11_set_57 ?_
              refine g_World_day (pc := 60) C E (i := 0) (by omega) q12_14 dX11_set_60 ?_
              refine x_eq (show M (7 + 0) 0 = vD (sV σ) from rc_day h) ?_
              refine x_istore (pc := 63) (L' := [(4, .int (vD (sV σ))), (0, .ref (t.1 0)), (1, .int x1), (2, .int x2), (3, .int x3)]) C dX11_set_63 (by decide) rfl ?_
              refine x_aload_n (pc := 65) C 1 dX11_set_65 rfl ?_
              refine g_main_now (pc := 66) C E q2_1 dX11_set_66 ?_
              refine x_iload_n (pc := 69) C 4 dX11_set_69 rfl ?_
              refine p_World_day (pc := 70) C E (i := 0) (by omega) q12_14 dX11_set_70 ?_
              refine x_goto (pc := 73) C 138 dX11_set_73 (by decide) ?_
              refine x_iload (pc := 138) C 0 dX11_set_138 rfl ?_
              exact x_iret (pc := 140) C X dX11_set_140 (fin (by
                    unfold o_set
                    repeat (first | with_reducible rfl | (refine (if_pos ?_).trans ?_; ((try simp only [inB_t, inB_f, i_lt, i_le, i_eq, ne_eq, Bool.not_eq_true, Bool.not_eq_false, hpB, decide_eq_true_eq, decide_eq_false_iff_not, li_0, li_1, li_2, li_3, li_4, li_5, li_6, li_7, li_8, li_9, li_10, li_20, li_40, li_99, li_100, li_255, li_899, li_999, li_m1, li_m2, li_m3, li_m4, li_m11, li_m12, li_m13, li_m14, li_m100] at h1 h6 h10 h28 h35 h40 ⊢) <;> omega)) | (refine (if_neg ?_).trans ?_; ((try simp only [inB_t, inB_f, i_lt, i_le, i_eq, ne_eq, Bool.not_eq_true, Bool.not_eq_false, hpB, decide_eq_true_eq, decide_eq_false_iff_not, li_0, li_1, li_2, li_3, li_4, li_5, li_6, li_7, li_8, li_9, li_10, li_20, li_40, li_99, li_100, li_255, li_899, li_999, li_m1, li_m2, li_m3, li_m4, li_m11, li_m12, li_m13, li_m14, li_m100] at h1 h6 h10 h28 h35 h40 ⊢) <;> omega)) | fail)
                    all_goals (first | with_reducible rfl | (exfalso; ((try simp only [inB_t, inB_f, i_lt, i_le, i_eq, ne_eq, Bool.not_eq_true, Bool.not_eq_false, hpB, decide_eq_true_eq, decide_eq_false_iff_not, li_0, li_1, li_2, li_3, li_4, li_5, li_6, li_7, li_8, li_9, li_10, li_20, li_40, li_99, li_100, li_255, li_899, li_999, li_m1, li_m2, li_m3, li_m4, li_m11, li_m12, li_m13, li_m14, li_m100] at h1 h6 h10 h28 h35 h40 ⊢) <;> omega)))) (rc_day_ h (by simp only [inB_t, i_lt, li_0, li_999] at *; omega)))
            · refine x_iload_n (pc := 43) C 3 dX11_set_43 rfl ?_
              refine x_bipush (pc := 44) (v := 10) C dX11_set_44 rfl ?_
              refine x_icmp_lt (pc := 46) C 52 dX11_set_46 (by decide) (fun h46 => ?_) (fun h46 => ?_)
              · refine x_iload_n (pc := 52) C 1 dX11_set_52 rfl ?_
                refine x_if_ne_f (pc := 53) C 76 dX11_set_53 (by decide) h10 ?_
                refine x_aload_n (pc := 56) C 0 dX11_set_56 rfl ?_
                refine g_main_now (pc := 57) C E q2_1 dX11_set_57 ?_
                refine g_World_day (pc := 60) C E (i := 0) (by omega) q12_14 dX11_set_60 ?_
                refine x_eq (show M (7 + 0) 0 = vD (sV σ) from rc_day h) ?_
                refine x_istore (pc := 63) (L' := [(4, .int (vD (sV σ))), (0, .ref (t.1 0)), (1, .int x1), (2, .int x2), (3, .int x3)]) C dX11_set_63 (by decide) rfl ?_
                refine x_aload_n (pc := 65) C 1 dX11_set_65 rfl ?_
                refine g_main_now (pc := 66) C E q2_1 dX11_set_66 ?_
                refine x_iload_n (pc := 69) C 4 dX11_set_69 rfl ?_
                refine p_World_day (pc := 70) C E (i := 0) (by omega) q12_14 dX11_set_70 ?_
                refine x_goto (pc := 73) C 138 dX11_set_73 (by decide) ?_
                refine x_iload (pc := 138) C 0 dX11_set_138 rfl ?_
                exact x_iret (pc := 140) C X dX11_set_140 (fin (by
                      unfold o_set
                      repeat (first | with_reducible rfl | (refine (if_pos ?_).trans ?_; ((try simp only [inB_t, inB_f, i_lt, i_le, i_eq, ne_eq, Bool.not_eq_true, Bool.not_eq_false, hpB, decide_eq_true_eq, decide_eq_false_iff_not, li_0, li_1, li_2, li_3, li_4, li_5, li_6, li_7, li_8, li_9, li_10, li_20, li_40, li_99, li_100, li_255, li_899, li_999, li_m1, li_m2, li_m3, li_m4, li_m11, li_m12, li_m13, li_m14, li_m100] at h1 h6 h10 h28 h35 h40 h46 ⊢) <;> omega)) | (refine (if_neg ?_).trans ?_; ((try simp only [inB_t, inB_f, i_lt, i_le, i_eq, ne_eq, Bool.not_eq_true, Bool.not_eq_false, hpB, decide_eq_true_eq, decide_eq_false_iff_not, li_0, li_1, li_2, li_3, li_4, li_5, li_6, li_7, li_8, li_9, li_10, li_20, li_40, li_99, li_100, li_255, li_899, li_999, li_m1, li_m2, li_m3, li_m4, li_m11, li_m12, li_m13, li_m14, li_m100] at h1 h6 h10 h28 h35 h40 h46 ⊢) <;> omega)) | fail)
                      all_goals (first | with_reducible rfl | (exfalso; ((try simp only [inB_t, inB_f, i_lt, i_le, i_eq, ne_eq, Bool.not_eq_true, Bool.not_eq_false, hpB, decide_eq_true_eq, decide_eq_false_iff_not, li_0, li_1, li_2, li_3, li_4, li_5, li_6, li_7, li_8, li_9, li_10, li_20, li_40, li_99, li_100, li_255, li_899, li_999, li_m1, li_m2, li_m3, li_m4, li_m11, li_m12, li_m13, li_m14, li_m100] at h1 h6 h10 h28 h35 h40 h46 ⊢) <;> omega)))) (rc_day_ h (by simp only [inB_t, i_lt, li_0, li_999] at *; omega)))
              · refine x_bipush (pc := 49) (v := (-2)) C dX11_set_49 rfl ?_
                exact x_iret (pc := 51) C X dX11_set_51 (fin (by
                      unfold o_set
                      repeat (first | with_reducible rfl | (refine (if_pos ?_).trans ?_; ((try simp only [inB_t, inB_f, i_lt, i_le, i_eq, ne_eq, Bool.not_eq_true, Bool.not_eq_false, hpB, decide_eq_true_eq, decide_eq_false_iff_not, li_0, li_1, li_2, li_3, li_4, li_5, li_6, li_7, li_8, li_9, li_10, li_20, li_40, li_99, li_100, li_255, li_899, li_999, li_m1, li_m2, li_m3, li_m4, li_m11, li_m12, li_m13, li_m14, li_m100] at h1 h6 h10 h28 h35 h40 h46 ⊢) <;> omega)) | (refine (if_neg ?_).trans ?_; ((try simp only [inB_t, inB_f, i_lt, i_le, i_eq, ne_eq, Bool.not_eq_true, Bool.not_eq_false, hpB, decide_eq_true_eq, decide_eq_false_iff_not, li_0, li_1, li_2, li_3, li_4, li_5, li_6, li_7, li_8, li_9, li_10, li_20, li_40, li_99, li_100, li_255, li_899, li_999, li_m1, li_m2, li_m3, li_m4, li_m11, li_m12, li_m13, li_m14, li_m100] at h1 h6 h10 h28 h35 h40 h46 ⊢) <;> omega)) | fail)
                      all_goals (first | with_reducible rfl | (exfalso; ((try simp only [inB_t, inB_f, i_lt, i_le, i_eq, ne_eq, Bool.not_eq_true, Bool.not_eq_false, hpB, decide_eq_true_eq, decide_eq_false_iff_not, li_0, li_1, li_2, li_3, li_4, li_5, li_6, li_7, li_8, li_9, li_10, li_20, li_40, li_99, li_100, li_255, li_899, li_999, li_m1, li_m2, li_m3, li_m4, li_m11, li_m12, li_m13, li_m14, li_m100] at h1 h6 h10 h28 h35 h40 h46 ⊢) <;> omega)))) h)
      · refine x_aload_n (pc := 13) C 0 dX11_set_13 rfl ?_
        refine g_main_now (pc := 14) C E q2_1 dX11_set_14 ?_
        refine x_iload_n (pc := 17) C 2 dX11_set_17 rfl ?_
        refine x_callV (pc := 18) C E [.int x2] [] (w_has t (by decide : 0 < 3) h.2.1 _) m_X10_has q12_18 (xo_World (i := 0) (by omega)) rfl (by decide) (Nat.le_of_ble_eq_true rfl) dX11_set_18 rfl (k_I ?_)
        refine x_ifb_ne (pc := 21) C 27 dX11_set_21 (by decide) (fun h21 => ?_) (fun h21 => ?_)
        · refine x_iload_n (pc := 27) C 3 dX11_set_27 rfl ?_
          refine x_if_lt (pc := 28) C 49 dX11_set_28 (by decide) (fun h28 => ?_) (fun h28 => ?_)
          · refine x_bipush (pc := 49) (v := (-2)) C dX11_set_49 rfl ?_
            exact x_iret (pc := 51) C X dX11_set_51 (fin (by
                  unfold o_set
                  repeat (first | with_reducible rfl | (refine (if_pos ?_).trans ?_; ((try simp only [inB_t, inB_f, i_lt, i_le, i_eq, ne_eq, Bool.not_eq_true, Bool.not_eq_false, hpB, decide_eq_true_eq, decide_eq_false_iff_not, li_0, li_1, li_2, li_3, li_4, li_5, li_6, li_7, li_8, li_9, li_10, li_20, li_40, li_99, li_100, li_255, li_899, li_999, li_m1, li_m2, li_m3, li_m4, li_m11, li_m12, li_m13, li_m14, li_m100] at h1 h6 h10 h21 h28 ⊢) <;> omega)) | (refine (if_neg ?_).trans ?_; ((try simp only [inB_t, inB_f, i_lt, i_le, i_eq, ne_eq, Bool.not_eq_true, Bool.not_eq_false, hpB, decide_eq_true_eq, decide_eq_false_iff_not, li_0, li_1, li_2, li_3, li_4, li_5, li_6, li_7, li_8, li_9, li_10, li_20, li_40, li_99, li_100, li_255, li_899, li_999, li_m1, li_m2, li_m3, li_m4, li_m11, li_m12, li_m13, li_m14, li_m100] at h1 h6 h10 h21 h28 ⊢) <;> omega)) | fail)
                  all_goals (first | with_reducible rfl | (exfalso; ((try simp only [inB_t, inB_f, i_lt, i_le, i_eq, ne_eq, Bool.not_eq_true, Bool.not_eq_false, hpB, decide_eq_true_eq, decide_eq_false_iff_not, li_0, li_1, li_2, li_3, li_4, li_5, li_6, li_7, li_8, li_9, li_10, li_20, li_40, li_99, li_100, li_255, li_899, li_999, li_m1, li_m2, li_m3, li_m4, li_m11, li_m12, li_m13, li_m14, li_m100] at h1 h6 h10 h21 h28 ⊢) <;> omega)))) h)
          · refine x_iload_n (pc := 31) C 3 dX11_set_31 rfl ?_
            refine x_sipush (pc := 32) (v := 999) C dX11_set_32 rfl ?_
            refine x_icmp_gt (pc := 35) C 49 dX11_set_35 (by decide) (fun h35 => ?_) (fun h35 => ?_)
            · refine x_bipush (pc := 49) (v := (-2)) C dX11_set_49 rfl ?_
              exact x_iret (pc := 51) C X dX11_set_51 (fin (by
                    unfold o_set
                    repeat (first | with_reducible rfl | (refine (if_pos ?_).trans ?_; ((try simp only [inB_t, inB_f, i_lt, i_le, i_eq, ne_eq, Bool.not_eq_true, Bool.not_eq_false, hpB, decide_eq_true_eq, decide_eq_false_iff_not, li_0, li_1, li_2, li_3, li_4, li_5, li_6, li_7, li_8, li_9, li_10, li_20, li_40, li_99, li_100, li_255, li_899, li_999, li_m1, li_m2, li_m3, li_m4, li_m11, li_m12, li_m13, li_m14, li_m100] at h1 h6 h10 h21 h28 h35 ⊢) <;> omega)) | (refine (if_neg ?_).trans ?_; ((try simp only [inB_t, inB_f, i_lt, i_le, i_eq, ne_eq, Bool.not_eq_true, Bool.not_eq_false, hpB, decide_eq_true_eq, decide_eq_false_iff_not, li_0, li_1, li_2, li_3, li_4, li_5, li_6, li_7, li_8, li_9, li_10, li_20, li_40, li_99, li_100, li_255, li_899, li_999, li_m1, li_m2, li_m3, li_m4, li_m11, li_m12, li_m13, li_m14, li_m100] at h1 h6 h10 h21 h28 h35 ⊢) <;> omega)) | fail)
                    all_goals (first | with_reducible rfl | (exfalso; ((try simp only [inB_t, inB_f, i_lt, i_le, i_eq, ne_eq, Bool.not_eq_true, Bool.not_eq_false, hpB, decide_eq_true_eq, decide_eq_false_iff_not, li_0, li_1, li_2, li_3, li_4, li_5, li_6, li_7, li_8, li_9, li_10, li_20, li_40, li_99, li_100, li_255, li_899, li_999, li_m1, li_m2, li_m3, li_m4, li_m11, li_m12, li_m13, li_m14, li_m100] at h1 h6 h10 h21 h28 h35 ⊢) <;> omega)))) h)
            · refine x_iload_n (pc := 38) C 1 dX11_set_38 rfl ?_
              refine x_iconst (pc := 39) (v := 1) C dX11_set_39 rfl ?_
              refine x_icmp_ne (pc := 40) C 52 dX11_set_40 (by decide) (fun h40 => ?_) (fun h40 => ?_)
              · refine x_iload_n (pc := 52) C 1 dX11_set_52 rfl ?_
                refine x_if_ne_t (pc := 53) C 76 dX11_set_53 (by decide) h10 ?_
                obtain ⟨d, hd, ed⟩ := inB_of h21 (by omega)
                have htd := nI_toInt (n := d) (by omega)
                have hod := oN_nI (n := d) (by omega)
                subst ed
                refine x_iload_n (pc := 76) C 1 dX11_set_76 rfl ?_
                refine x_iconst (pc := 77) (v := 1) C dX11_set_77 rfl ?_
                refine x_icmp_ne (pc := 78) C 111 dX11_set_78 (by decide) (fun h78 => ?_) (fun h78 => ?_)
                · refine x_aload_n (pc := 111) C 0 dX11_set_111 rfl ?_
                  refine g_main_now (pc := 112) C E q2_1 dX11_set_112 ?_
                  refine g_World_disks (pc := 115) C E (i := 0) (by omega) q12_15 dX11_set_115 ?_
                  refine x_iload_n (pc := 118) C 2 dX11_set_118 rfl ?_
                  refine l_disks (pc := 119) C E (i := 0) (by omega) (by omega) dX11_set_119 ?_
                  refine g_Disk_since (pc := 120) C E (by omega) q12_17 dX11_set_120 ?_
                  refine x_eq (show M (62 + 3 * (6 * 0 + d)) 2 = vS (sV σ) d from rc_since h (by omega)) ?_
                  refine x_istore (pc := 123) (L' := [(4, .int (vS (sV σ) d)), (0, .ref (t.1 0)), (1, .int x1), (2, .int (nI d)), (3, .int x3)]) C dX11_set_123 (by decide) rfl ?_
                  refine x_aload_n (pc := 125) C 1 dX11_set_125 rfl ?_
                  refine g_main_now (pc := 126) C E q2_1 dX11_set_126 ?_
                  refine g_World_disks (pc := 129) C E (i := 0) (by omega) q12_15 dX11_set_129 ?_
                  refine x_iload_n (pc := 132) C 3 dX11_set_132 rfl ?_
                  refine l_disks (pc := 133) C E (i := 0) (by omega) (by omega) dX11_set_133 ?_
                  refine x_iload_n (pc := 134) C 4 dX11_set_134 rfl ?_
                  refine p_Disk_since (pc := 135) C E (by omega) q12_17 dX11_set_135 ?_
                  refine x_iload (pc := 138) C 0 dX11_set_138 rfl ?_
                  exact x_iret (pc := 140) C X dX11_set_140 (fin (by
                        unfold o_set
                        simp only [hod]
                        repeat (first | with_reducible rfl | (refine (if_pos ?_).trans ?_; ((try simp only [inB_t, inB_f, i_lt, i_le, i_eq, ne_eq, Bool.not_eq_true, Bool.not_eq_false, hpB, decide_eq_true_eq, decide_eq_false_iff_not, li_0, li_1, li_2, li_3, li_4, li_5, li_6, li_7, li_8, li_9, li_10, li_20, li_40, li_99, li_100, li_255, li_899, li_999, li_m1, li_m2, li_m3, li_m4, li_m11, li_m12, li_m13, li_m14, li_m100] at h1 h6 h10 h21 h28 h35 h40 htd h78 ⊢) <;> omega)) | (refine (if_neg ?_).trans ?_; ((try simp only [inB_t, inB_f, i_lt, i_le, i_eq, ne_eq, Bool.not_eq_true, Bool.not_eq_false, hpB, decide_eq_true_eq, decide_eq_false_iff_not, li_0, li_1, li_2, li_3, li_4, li_5, li_6, li_7, li_8, li_9, li_10, li_20, li_40, li_99, li_100, li_255, li_899, li_999, li_m1, li_m2, li_m3, li_m4, li_m11, li_m12, li_m13, li_m14, li_m100] at h1 h6 h10 h21 h28 h35 h40 htd h78 ⊢) <;> omega)) | fail)
                        all_goals (first | with_reducible rfl | (exfalso; ((try simp only [inB_t, inB_f, i_lt, i_le, i_eq, ne_eq, Bool.not_eq_true, Bool.not_eq_false, hpB, decide_eq_true_eq, decide_eq_false_iff_not, li_0, li_1, li_2, li_3, li_4, li_5, li_6, li_7, li_8, li_9, li_10, li_20, li_40, li_99, li_100, li_255, li_899, li_999, li_m1, li_m2, li_m3, li_m4, li_m11, li_m12, li_m13, li_m14, li_m100] at h1 h6 h10 h21 h28 h35 h40 htd h78 ⊢) <;> omega)))) (rc_sin_ h hd x3))
                · refine x_aload_n (pc := 81) C 0 dX11_set_81 rfl ?_
                  refine g_main_now (pc := 82) C E q2_1 dX11_set_82 ?_
                  refine g_World_disks (pc := 85) C E (i := 0) (by omega) q12_15 dX11_set_85 ?_
                  refine x_iload_n (pc := 88) C 2 dX11_set_88 rfl ?_
                  refine l_disks (pc := 89) C E (i := 0) (by omega) (by omega) dX11_set_89 ?_
                  refine g_Disk_number (pc := 90) C E (by omega) q12_16 dX11_set_90 ?_
                  refine x_eq (show M (62 + 3 * (6 * 0 + d)) 1 = vU (sV σ) d from rc_num h (by omega)) ?_
                  refine x_istore (pc := 93) (L' := [(4, .int (vU (sV σ) d)), (0, .ref (t.1 0)), (1, .int x1), (2, .int (nI d)), (3, .int x3)]) C dX11_set_93 (by decide) rfl ?_
                  refine x_aload_n (pc := 95) C 1 dX11_set_95 rfl ?_
                  refine g_main_now (pc := 96) C E q2_1 dX11_set_96 ?_
                  refine g_World_disks (pc := 99) C E (i := 0) (by omega) q12_15 dX11_set_99 ?_
                  refine x_iload_n (pc := 102) C 3 dX11_set_102 rfl ?_
                  refine l_disks (pc := 103) C E (i := 0) (by omega) (by omega) dX11_set_103 ?_
                  refine x_iload_n (pc := 104) C 4 dX11_set_104 rfl ?_
                  refine p_Disk_number (pc := 105) C E (by omega) q12_16 dX11_set_105 ?_
                  refine x_goto (pc := 108) C 138 dX11_set_108 (by decide) ?_
                  refine x_iload (pc := 138) C 0 dX11_set_138 rfl ?_
                  exact x_iret (pc := 140) C X dX11_set_140 (fin (by
                        unfold o_set
                        simp only [hod]
                        repeat (first | with_reducible rfl | (refine (if_pos ?_).trans ?_; ((try simp only [inB_t, inB_f, i_lt, i_le, i_eq, ne_eq, Bool.not_eq_true, Bool.not_eq_false, hpB, decide_eq_true_eq, decide_eq_false_iff_not, li_0, li_1, li_2, li_3, li_4, li_5, li_6, li_7, li_8, li_9, li_10, li_20, li_40, li_99, li_100, li_255, li_899, li_999, li_m1, li_m2, li_m3, li_m4, li_m11, li_m12, li_m13, li_m14, li_m100] at h1 h6 h10 h21 h28 h35 h40 htd h78 ⊢) <;> omega)) | (refine (if_neg ?_).trans ?_; ((try simp only [inB_t, inB_f, i_lt, i_le, i_eq, ne_eq, Bool.not_eq_true, Bool.not_eq_false, hpB, decide_eq_true_eq, decide_eq_false_iff_not, li_0, li_1, li_2, li_3, li_4, li_5, li_6, li_7, li_8, li_9, li_10, li_20, li_40, li_99, li_100, li_255, li_899, li_999, li_m1, li_m2, li_m3, li_m4, li_m11, li_m12, li_m13, li_m14, li_m100] at h1 h6 h10 h21 h28 h35 h40 htd h78 ⊢) <;> omega)) | fail)
                        all_goals (first | with_reducible rfl | (exfalso; ((try simp only [inB_t, inB_f, i_lt, i_le, i_eq, ne_eq, Bool.not_eq_true, Bool.not_eq_false, hpB, decide_eq_true_eq, decide_eq_false_iff_not, li_0, li_1, li_2, li_3, li_4, li_5, li_6, li_7, li_8, li_9, li_10, li_20, li_40, li_99, li_100, li_255, li_899, li_999, li_m1, li_m2, li_m3, li_m4, li_m11, li_m12, li_m13, li_m14, li_m100] at h1 h6 h10 h21 h28 h35 h40 htd h78 ⊢) <;> omega)))) (rc_num_ h hd x3))
              · refine x_iload_n (pc := 43) C 3 dX11_set_43 rfl ?_
                refine x_bipush (pc := 44) (v := 10) C dX11_set_44 rfl ?_
                refine x_icmp_lt (pc := 46) C 52 dX11_set_46 (by decide) (fun h46 => ?_) (fun h46 => ?_)
                · refine x_iload_n (pc := 52) C 1 dX11_set_52 rfl ?_
                  refine x_if_ne_t (pc := 53) C 76 dX11_set_53 (by decide) h10 ?_
                  obtain ⟨d, hd, ed⟩ := inB_of h21 (by omega)
                  have htd := nI_toInt (n := d) (by omega)
                  have hod := oN_nI (n := d) (by omega)
                  subst ed
                  refine x_iload_n (pc := 76) C 1 dX11_set_76 rfl ?_
                  refine x_iconst (pc := 77) (v := 1) C dX11_set_77 rfl ?_
                  refine x_icmp_ne (pc := 78) C 111 dX11_set_78 (by decide) (fun h78 => ?_) (fun h78 => ?_)
                  · refine x_aload_n (pc := 111) C 0 dX11_set_111 rfl ?_
                    refine g_main_now (pc := 112) C E q2_1 dX11_set_112 ?_
                    refine g_World_disks (pc := 115) C E (i := 0) (by omega) q12_15 dX11_set_115 ?_
                    refine x_iload_n (pc := 118) C 2 dX11_set_118 rfl ?_
                    refine l_disks (pc := 119) C E (i := 0) (by omega) (by omega) dX11_set_119 ?_
                    refine g_Disk_since (pc := 120) C E (by omega) q12_17 dX11_set_120 ?_
                    refine x_eq (show M (62 + 3 * (6 * 0 + d)) 2 = vS (sV σ) d from rc_since h (by omega)) ?_
                    refine x_istore (pc := 123) (L' := [(4, .int (vS (sV σ) d)), (0, .ref (t.1 0)), (1, .int x1), (2, .int (nI d)), (3, .int x3)]) C dX11_set_123 (by decide) rfl ?_
                    refine x_aload_n (pc := 125) C 1 dX11_set_125 rfl ?_
                    refine g_main_now (pc := 126) C E q2_1 dX11_set_126 ?_
                    refine g_World_disks (pc := 129) C E (i := 0) (by omega) q12_15 dX11_set_129 ?_
                    refine x_iload_n (pc := 132) C 3 dX11_set_132 rfl ?_
                    refine l_disks (pc := 133) C E (i := 0) (by omega) (by omega) dX11_set_133 ?_
                    refine x_iload_n (pc := 134) C 4 dX11_set_134 rfl ?_
                    refine p_Disk_since (pc := 135) C E (by omega) q12_17 dX11_set_135 ?_
                    refine x_iload (pc := 138) C 0 dX11_set_138 rfl ?_
                    exact x_iret (pc := 140) C X dX11_set_140 (fin (by
                          unfold o_set
                          simp only [hod]
                          repeat (first | with_reducible rfl | (refine (if_pos ?_).trans ?_; ((try simp only [inB_t, inB_f, i_lt, i_le, i_eq, ne_eq, Bool.not_eq_true, Bool.not_eq_false, hpB, decide_eq_true_eq, decide_eq_false_iff_not, li_0, li_1, li_2, li_3, li_4, li_5, li_6, li_7, li_8, li_9, li_10, li_20, li_40, li_99, li_100, li_255, li_899, li_999, li_m1, li_m2, li_m3, li_m4, li_m11, li_m12, li_m13, li_m14, li_m100] at h1 h6 h10 h21 h28 h35 h40 h46 htd h78 ⊢) <;> omega)) | (refine (if_neg ?_).trans ?_; ((try simp only [inB_t, inB_f, i_lt, i_le, i_eq, ne_eq, Bool.not_eq_true, Bool.not_eq_false, hpB, decide_eq_true_eq, decide_eq_false_iff_not, li_0, li_1, li_2, li_3, li_4, li_5, li_6, li_7, li_8, li_9, li_10, li_20, li_40, li_99, li_100, li_255, li_899, li_999, li_m1, li_m2, li_m3, li_m4, li_m11, li_m12, li_m13, li_m14, li_m100] at h1 h6 h10 h21 h28 h35 h40 h46 htd h78 ⊢) <;> omega)) | fail)
                          all_goals (first | with_reducible rfl | (exfalso; ((try simp only [inB_t, inB_f, i_lt, i_le, i_eq, ne_eq, Bool.not_eq_true, Bool.not_eq_false, hpB, decide_eq_true_eq, decide_eq_false_iff_not, li_0, li_1, li_2, li_3, li_4, li_5, li_6, li_7, li_8, li_9, li_10, li_20, li_40, li_99, li_100, li_255, li_899, li_999, li_m1, li_m2, li_m3, li_m4, li_m11, li_m12, li_m13, li_m14, li_m100] at h1 h6 h10 h21 h28 h35 h40 h46 htd h78 ⊢) <;> omega)))) (rc_sin_ h hd x3))
                  · refine x_aload_n (pc := 81) C 0 dX11_set_81 rfl ?_
                    refine g_main_now (pc := 82) C E q2_1 dX11_set_82 ?_
                    refine g_World_disks (pc := 85) C E (i := 0) (by omega) q12_15 dX11_set_85 ?_
                    refine x_iload_n (pc := 88) C 2 dX11_set_88 rfl ?_
                    refine l_disks (pc := 89) C E (i := 0) (by omega) (by omega) dX11_set_89 ?_
                    refine g_Disk_number (pc := 90) C E (by omega) q12_16 dX11_set_90 ?_
                    refine x_eq (show M (62 + 3 * (6 * 0 + d)) 1 = vU (sV σ) d from rc_num h (by omega)) ?_
                    refine x_istore (pc := 93) (L' := [(4, .int (vU (sV σ) d)), (0, .ref (t.1 0)), (1, .int x1), (2, .int (nI d)), (3, .int x3)]) C dX11_set_93 (by decide) rfl ?_
                    refine x_aload_n (pc := 95) C 1 dX11_set_95 rfl ?_
                    refine g_main_now (pc := 96) C E q2_1 dX11_set_96 ?_
                    refine g_World_disks (pc := 99) C E (i := 0) (by omega) q12_15 dX11_set_99 ?_
                    refine x_iload_n (pc := 102) C 3 dX11_set_102 rfl ?_
                    refine l_disks (pc := 103) C E (i := 0) (by omega) (by omega) dX11_set_103 ?_
                    refine x_iload_n (pc := 104) C 4 dX11_set_104 rfl ?_
                    refine p_Disk_number (pc := 105) C E (by omega) q12_16 dX11_set_105 ?_
                    refine x_goto (pc := 108) C 138 dX11_set_108 (by decide) ?_
                    refine x_iload (pc := 138) C 0 dX11_set_138 rfl ?_
                    exact x_iret (pc := 140) C X dX11_set_140 (fin (by
                          unfold o_set
                          simp only [hod]
                          repeat (first | with_reducible rfl | (refine (if_pos ?_).trans ?_; ((try simp only [inB_t, inB_f, i_lt, i_le, i_eq, ne_eq, Bool.not_eq_true, Bool.not_eq_false, hpB, decide_eq_true_eq, decide_eq_false_iff_not, li_0, li_1, li_2, li_3, li_4, li_5, li_6, li_7, li_8, li_9, li_10, li_20, li_40, li_99, li_100, li_255, li_899, li_999, li_m1, li_m2, li_m3, li_m4, li_m11, li_m12, li_m13, li_m14, li_m100] at h1 h6 h10 h21 h28 h35 h40 h46 htd h78 ⊢) <;> omega)) | (refine (if_neg ?_).trans ?_; ((try simp only [inB_t, inB_f, i_lt, i_le, i_eq, ne_eq, Bool.not_eq_true, Bool.not_eq_false, hpB, decide_eq_true_eq, decide_eq_false_iff_not, li_0, li_1, li_2, li_3, li_4, li_5, li_6, li_7, li_8, li_9, li_10, li_20, li_40, li_99, li_100, li_255, li_899, li_999, li_m1, li_m2, li_m3, li_m4, li_m11, li_m12, li_m13, li_m14, li_m100] at h1 h6 h10 h21 h28 h35 h40 h46 htd h78 ⊢) <;> omega)) | fail)
                          all_goals (first | with_reducible rfl | (exfalso; ((try simp only [inB_t, inB_f, i_lt, i_le, i_eq, ne_eq, Bool.not_eq_true, Bool.not_eq_false, hpB, decide_eq_true_eq, decide_eq_false_iff_not, li_0, li_1, li_2, li_3, li_4, li_5, li_6, li_7, li_8, li_9, li_10, li_20, li_40, li_99, li_100, li_255, li_899, li_999, li_m1, li_m2, li_m3, li_m4, li_m11, li_m12, li_m13, li_m14, li_m100] at h1 h6 h10 h21 h28 h35 h40 h46 htd h78 ⊢) <;> omega)))) (rc_num_ h hd x3))
                · refine x_bipush (pc := 49) (v := (-2)) C dX11_set_49 rfl ?_
                  exact x_iret (pc := 51) C X dX11_set_51 (fin (by
                        unfold o_set
                        repeat (first | with_reducible rfl | (refine (if_pos ?_).trans ?_; ((try simp only [inB_t, inB_f, i_lt, i_le, i_eq, ne_eq, Bool.not_eq_true, Bool.not_eq_false, hpB, decide_eq_true_eq, decide_eq_false_iff_not, li_0, li_1, li_2, li_3, li_4, li_5, li_6, li_7, li_8, li_9, li_10, li_20, li_40, li_99, li_100, li_255, li_899, li_999, li_m1, li_m2, li_m3, li_m4, li_m11, li_m12, li_m13, li_m14, li_m100] at h1 h6 h10 h21 h28 h35 h40 h46 ⊢) <;> omega)) | (refine (if_neg ?_).trans ?_; ((try simp only [inB_t, inB_f, i_lt, i_le, i_eq, ne_eq, Bool.not_eq_true, Bool.not_eq_false, hpB, decide_eq_true_eq, decide_eq_false_iff_not, li_0, li_1, li_2, li_3, li_4, li_5, li_6, li_7, li_8, li_9, li_10, li_20, li_40, li_99, li_100, li_255, li_899, li_999, li_m1, li_m2, li_m3, li_m4, li_m11, li_m12, li_m13, li_m14, li_m100] at h1 h6 h10 h21 h28 h35 h40 h46 ⊢) <;> omega)) | fail)
                        all_goals (first | with_reducible rfl | (exfalso; ((try simp only [inB_t, inB_f, i_lt, i_le, i_eq, ne_eq, Bool.not_eq_true, Bool.not_eq_false, hpB, decide_eq_true_eq, decide_eq_false_iff_not, li_0, li_1, li_2, li_3, li_4, li_5, li_6, li_7, li_8, li_9, li_10, li_20, li_40, li_99, li_100, li_255, li_899, li_999, li_m1, li_m2, li_m3, li_m4, li_m11, li_m12, li_m13, li_m14, li_m100] at h1 h6 h10 h21 h28 h35 h40 h46 ⊢) <;> omega)))) h)
        · refine x_bipush (pc := 24) (v := (-2)) C dX11_set_24 rfl ?_
          exact x_iret (pc := 26) C X dX11_set_26 (fin (by
                unfold o_set
                repeat (first | with_reducible rfl | (refine (if_pos ?_).trans ?_; ((try simp only [inB_t, inB_f, i_lt, i_le, i_eq, ne_eq, Bool.not_eq_true, Bool.not_eq_false, hpB, decide_eq_true_eq, decide_eq_false_iff_not, li_0, li_1, li_2, li_3, li_4, li_5, li_6, li_7, li_8, li_9, li_10, li_20, li_40, li_99, li_100, li_255, li_899, li_999, li_m1, li_m2, li_m3, li_m4, li_m11, li_m12, li_m13, li_m14, li_m100] at h1 h6 h10 h21 ⊢) <;> omega)) | (refine (if_neg ?_).trans ?_; ((try simp only [inB_t, inB_f, i_lt, i_le, i_eq, ne_eq, Bool.not_eq_true, Bool.not_eq_false, hpB, decide_eq_true_eq, decide_eq_false_iff_not, li_0, li_1, li_2, li_3, li_4, li_5, li_6, li_7, li_8, li_9, li_10, li_20, li_40, li_99, li_100, li_255, li_899, li_999, li_m1, li_m2, li_m3, li_m4, li_m11, li_m12, li_m13, li_m14, li_m100] at h1 h6 h10 h21 ⊢) <;> omega)) | fail)
                all_goals (first | with_reducible rfl | (exfalso; ((try simp only [inB_t, inB_f, i_lt, i_le, i_eq, ne_eq, Bool.not_eq_true, Bool.not_eq_false, hpB, decide_eq_true_eq, decide_eq_false_iff_not, li_0, li_1, li_2, li_3, li_4, li_5, li_6, li_7, li_8, li_9, li_10, li_20, li_40, li_99, li_100, li_255, li_899, li_999, li_m1, li_m2, li_m3, li_m4, li_m11, li_m12, li_m13, li_m14, li_m100] at h1 h6 h10 h21 ⊢) <;> omega)))) h)

set_option maxRecDepth 100000 in
set_option maxHeartbeats 4000000 in
theorem c_X11_bring (t : CT) {σ : SV} {M : MM} (h : RC σ M)(x1 x2 : Int32) : XMet (wC t) yX11_bring cX11_bring 3 (some .int) 4 [.ref (t.1 0), .int x1, .int x2] M (oR (o_disk σ x1 x2)) := by
  refine x_met RX11 (by decide) rfl (Nat.le_of_ble_eq_true rfl) (fun κ C X E => ?_)
  refine x_L (L' := [(0, .ref (t.1 0)), (1, .int x1), (2, .int x2)]) rfl ?_
  have hn6 := rc_n6 h
  have hq6 := rc_q6 h
  have hq := rc_q h
  have hN6 := h.1.1
  have hB := h.1.2.1
  refine x_iload_n (pc := 0) C 1 dX11_bring_0 rfl ?_
  refine x_if_lt (pc := 1) C 20 dX11_bring_1 (by decide) (fun h1 => ?_) (fun h1 => ?_)
  · refine x_bipush (pc := 20) (v := (-2)) C dX11_bring_20 rfl ?_
    exact x_iret (pc := 22) C X dX11_bring_22 (fin (by
          unfold o_disk
          repeat (first | with_reducible rfl | (refine (if_pos ?_).trans ?_; ((try simp only [inB_t, inB_f, i_lt, i_le, i_eq, ne_eq, Bool.not_eq_true, Bool.not_eq_false, hpB, decide_eq_true_eq, decide_eq_false_iff_not, li_0, li_1, li_2, li_3, li_4, li_5, li_6, li_7, li_8, li_9, li_10, li_20, li_40, li_99, li_100, li_255, li_899, li_999, li_m1, li_m2, li_m3, li_m4, li_m11, li_m12, li_m13, li_m14, li_m100] at h1 ⊢) <;> omega)) | (refine (if_neg ?_).trans ?_; ((try simp only [inB_t, inB_f, i_lt, i_le, i_eq, ne_eq, Bool.not_eq_true, Bool.not_eq_false, hpB, decide_eq_true_eq, decide_eq_false_iff_not, li_0, li_1, li_2, li_3, li_4, li_5, li_6, li_7, li_8, li_9, li_10, li_20, li_40, li_99, li_100, li_255, li_899, li_999, li_m1, li_m2, li_m3, li_m4, li_m11, li_m12, li_m13, li_m14, li_m100] at h1 ⊢) <;> omega)) | fail)
          all_goals (first | with_reducible rfl | (exfalso; ((try simp only [inB_t, inB_f, i_lt, i_le, i_eq, ne_eq, Bool.not_eq_true, Bool.not_eq_false, hpB, decide_eq_true_eq, decide_eq_false_iff_not, li_0, li_1, li_2, li_3, li_4, li_5, li_6, li_7, li_8, li_9, li_10, li_20, li_40, li_99, li_100, li_255, li_899, li_999, li_m1, li_m2, li_m3, li_m4, li_m11, li_m12, li_m13, li_m14, li_m100] at h1 ⊢) <;> omega)))) h)
  · refine x_iload_n (pc := 4) C 1 dX11_bring_4 rfl ?_
    refine x_bipush (pc := 5) (v := 6) C dX11_bring_5 rfl ?_
    refine x_icmp_ge (pc := 7) C 20 dX11_bring_7 (by decide) (fun h7 => ?_) (fun h7 => ?_)
    · refine x_bipush (pc := 20) (v := (-2)) C dX11_bring_20 rfl ?_
      exact x_iret (pc := 22) C X dX11_bring_22 (fin (by
            unfold o_disk
            repeat (first | with_reducible rfl | (refine (if_pos ?_).trans ?_; ((try simp only [inB_t, inB_f, i_lt, i_le, i_eq, ne_eq, Bool.not_eq_true, Bool.not_eq_false, hpB, decide_eq_true_eq, decide_eq_false_iff_not, li_0, li_1, li_2, li_3, li_4, li_5, li_6, li_7, li_8, li_9, li_10, li_20, li_40, li_99, li_100, li_255, li_899, li_999, li_m1, li_m2, li_m3, li_m4, li_m11, li_m12, li_m13, li_m14, li_m100] at h1 h7 ⊢) <;> omega)) | (refine (if_neg ?_).trans ?_; ((try simp only [inB_t, inB_f, i_lt, i_le, i_eq, ne_eq, Bool.not_eq_true, Bool.not_eq_false, hpB, decide_eq_true_eq, decide_eq_false_iff_not, li_0, li_1, li_2, li_3, li_4, li_5, li_6, li_7, li_8, li_9, li_10, li_20, li_40, li_99, li_100, li_255, li_899, li_999, li_m1, li_m2, li_m3, li_m4, li_m11, li_m12, li_m13, li_m14, li_m100] at h1 h7 ⊢) <;> omega)) | fail)
            all_goals (first | with_reducible rfl | (exfalso; ((try simp only [inB_t, inB_f, i_lt, i_le, i_eq, ne_eq, Bool.not_eq_true, Bool.not_eq_false, hpB, decide_eq_true_eq, decide_eq_false_iff_not, li_0, li_1, li_2, li_3, li_4, li_5, li_6, li_7, li_8, li_9, li_10, li_20, li_40, li_99, li_100, li_255, li_899, li_999, li_m1, li_m2, li_m3, li_m4, li_m11, li_m12, li_m13, li_m14, li_m100] at h1 h7 ⊢) <;> omega)))) h)
    · refine x_iload_n (pc := 10) C 2 dX11_bring_10 rfl ?_
      refine x_if_lt (pc := 11) C 20 dX11_bring_11 (by decide) (fun h11 => ?_) (fun h11 => ?_)
      · refine x_bipush (pc := 20) (v := (-2)) C dX11_bring_20 rfl ?_
        exact x_iret (pc := 22) C X dX11_bring_22 (fin (by
              unfold o_disk
              repeat (first | with_reducible rfl | (refine (if_pos ?_).trans ?_; ((try simp only [inB_t, inB_f, i_lt, i_le, i_eq, ne_eq, Bool.not_eq_true, Bool.not_eq_false, hpB, decide_eq_true_eq, decide_eq_false_iff_not, li_0, li_1, li_2, li_3, li_4, li_5, li_6, li_7, li_8, li_9, li_10, li_20, li_40, li_99, li_100, li_255, li_899, li_999, li_m1, li_m2, li_m3, li_m4, li_m11, li_m12, li_m13, li_m14, li_m100] at h1 h7 h11 ⊢) <;> omega)) | (refine (if_neg ?_).trans ?_; ((try simp only [inB_t, inB_f, i_lt, i_le, i_eq, ne_eq, Bool.not_eq_true, Bool.not_eq_false, hpB, decide_eq_true_eq, decide_eq_false_iff_not, li_0, li_1, li_2, li_3, li_4, li_5, li_6, li_7, li_8, li_9, li_10, li_20, li_40, li_99, li_100, li_255, li_899, li_999, li_m1, li_m2, li_m3, li_m4, li_m11, li_m12, li_m13, li_m14, li_m100] at h1 h7 h11 ⊢) <;> omega)) | fail)
              all_goals (first | with_reducible rfl | (exfalso; ((try simp only [inB_t, inB_f, i_lt, i_le, i_eq, ne_eq, Bool.not_eq_true, Bool.not_eq_false, hpB, decide_eq_true_eq, decide_eq_false_iff_not, li_0, li_1, li_2, li_3, li_4, li_5, li_6, li_7, li_8, li_9, li_10, li_20, li_40, li_99, li_100, li_255, li_899, li_999, li_m1, li_m2, li_m3, li_m4, li_m11, li_m12, li_m13, li_m14, li_m100] at h1 h7 h11 ⊢) <;> omega)))) h)
      · refine x_iload_n (pc := 14) C 2 dX11_bring_14 rfl ?_
        refine x_bipush (pc := 15) (v := 10) C dX11_bring_15 rfl ?_
        refine x_icmp_lt (pc := 17) C 23 dX11_bring_17 (by decide) (fun h17 => ?_) (fun h17 => ?_)
        · have hk1 : inB x1 6 = true := (by ((try simp only [inB_t, inB_f, i_lt, i_le, i_eq, ne_eq, Bool.not_eq_true, Bool.not_eq_false, hpB, decide_eq_true_eq, decide_eq_false_iff_not, li_0, li_1, li_2, li_3, li_4, li_5, li_6, li_7, li_8, li_9, li_10, li_20, li_40, li_99, li_100, li_255, li_899, li_999, li_m1, li_m2, li_m3, li_m4, li_m11, li_m12, li_m13, li_m14, li_m100] at h1 h7 h11 h17 ⊢) <;> omega))
          obtain ⟨k, hk, ek⟩ := inB_of hk1 (by omega)
          have htk := nI_toInt (n := k) (by omega)
          have hok := oN_nI (n := k) (by omega)
          subst ek
          refine x_aload_n (pc := 23) C 0 dX11_bring_23 rfl ?_
          refine g_main_now (pc := 24) C E q2_1 dX11_bring_24 ?_
          refine g_World_size (pc := 27) C E (i := 0) (by omega) q19_2 dX11_bring_27 ?_
          refine x_eq (show M (7 + 0) 2 = nI (vN (sV σ)) from rc_size h) ?_
          refine x_bipush (pc := 30) (v := 6) C dX11_bring_30 rfl ?_
          have hl32 := nI_toInt (n := vN (sV σ)) (by omega)
          refine x_icmp_lt (pc := 32) C 38 dX11_bring_32 (by decide) (fun h32 => ?_) (fun h32 => ?_)
          · have hn5 : vN (sV σ) < 6 := (by ((try simp only [inB_t, inB_f, i_lt, i_le, i_eq, ne_eq, Bool.not_eq_true, Bool.not_eq_false, hpB, decide_eq_true_eq, decide_eq_false_iff_not, li_0, li_1, li_2, li_3, li_4, li_5, li_6, li_7, li_8, li_9, li_10, li_20, li_40, li_99, li_100, li_255, li_899, li_999, li_m1, li_m2, li_m3, li_m4, li_m11, li_m12, li_m13, li_m14, li_m100] at h1 h7 h11 h17 htk hl32 h32 ⊢) <;> omega))
            refine x_aload_n (pc := 38) C 0 dX11_bring_38 rfl ?_
            refine g_main_now (pc := 39) C E q2_1 dX11_bring_39 ?_
            refine g_World_disks (pc := 42) C E (i := 0) (by omega) q12_15 dX11_bring_42 ?_
            refine x_aload_n (pc := 45) C 0 dX11_bring_45 rfl ?_
            refine g_main_now (pc := 46) C E q2_1 dX11_bring_46 ?_
            refine g_World_size (pc := 49) C E (i := 0) (by omega) q19_2 dX11_bring_49 ?_
            refine x_eq (show M (7 + 0) 2 = nI (vN (sV σ)) from rc_size h) ?_
            refine l_disks (pc := 52) C E (i := 0) (by omega) (by omega) dX11_bring_52 ?_
            refine x_aload_n (pc := 53) C 0 dX11_bring_53 rfl ?_
            refine g_main_kinds (pc := 54) C E q1_13 dX11_bring_54 ?_
            refine x_iload_n (pc := 57) C 1 dX11_bring_57 rfl ?_
            refine l_kinds (pc := 58) C E (by omega) dX11_bring_58 ?_
            refine x_iload_n (pc := 59) C 2 dX11_bring_59 rfl ?_
            refine x_aload_n (pc := 60) C 0 dX11_bring_60 rfl ?_
            refine g_main_now (pc := 61) C E q2_1 dX11_bring_61 ?_
            refine g_World_day (pc := 64) C E (i := 0) (by omega) q12_14 dX11_bring_64 ?_
            refine x_eq (show M (7 + 0) 0 = vD (sV σ) from rc_day h) ?_
            have e13 : t.1 (13 + k) = t.1 (13 + (nI k).toNatClampNeg) := by rw [nI_clamp (by omega)]
            rw [e13]
            refine x_callV (pc := 67) C E [.ref (t.1 (13 + (nI k).toNatClampNeg)), .int x2, .int (vD (sV σ))] [] (c_X2_begin t _ (j := 6 * 0 + (vN (sV σ))) (by omega) (nI k) _ _) m_X2_begin q19_3 (xo_Disk (j := 6 * 0 + (vN (sV σ))) (by omega)) rfl (by decide) (Nat.le_of_ble_eq_true rfl) dX11_bring_67 rfl (k_U ?_)
            refine x_aload_n (pc := 70) C 0 dX11_bring_70 rfl ?_
            refine g_main_now (pc := 71) C E q2_1 dX11_bring_71 ?_
            refine x_dup (pc := 74) C dX11_bring_74 rfl ?_
            refine g_World_size (pc := 75) C E (i := 0) (by omega) q19_2 dX11_bring_75 ?_
            refine x_eq (show (dBegin M (6 * 0 + (vN (sV σ))) (nI k) x2 (vD (sV σ))) (7 + 0) 2 = nI (vN (sV σ)) from (by unfold dBegin; rw [dDropN_at, if_neg (by omega), if_neg (by omega), if_neg (by omega), mu_n _ _ _ _ (by omega), mu_n _ _ _ _ (by omega), mu_n _ _ _ _ (by omega)]; exact rc_size h)) ?_
            refine x_iconst (pc := 78) (v := (nI 1)) C dX11_bring_78 (by decide) ?_
            refine x_iadd (pc := 79) C dX11_bring_79 ?_
            refine x_eq (show (nI (vN (sV σ))) + (nI 1) = nI (vN (sV σ) + 1) from nI_add _ 1) ?_
            refine p_World_size (pc := 80) C E (i := 0) (by omega) q19_2 dX11_bring_80 ?_
            refine x_aload_n (pc := 83) C 0 dX11_bring_83 rfl ?_
            refine g_main_now (pc := 84) C E q2_1 dX11_bring_84 ?_
            refine g_World_size (pc := 87) C E (i := 0) (by omega) q19_2 dX11_bring_87 ?_
            refine x_eq (show (mu (dBegin M (6 * 0 + (vN (sV σ))) (nI k) x2 (vD (sV σ))) (7 + 0) 2 (nI (vN (sV σ) + 1))) (7 + 0) 2 = nI (vN (sV σ) + 1) from mu_s _ _ _ _) ?_
            refine x_iconst (pc := 90) (v := (nI 1)) C dX11_bring_90 (by decide) ?_
            refine x_isub (pc := 91) C dX11_bring_91 ?_
            refine x_eq (show (nI (vN (sV σ) + 1)) - (nI 1) = nI (vN (sV σ)) from (by rw [pk_sub (by omega)]; rfl)) ?_
            exact x_iret (pc := 92) C X dX11_bring_92 (fin (by
                  unfold o_disk
                  simp only [hok]
                  repeat (first | with_reducible rfl | (refine (if_pos ?_).trans ?_; ((try simp only [inB_t, inB_f, i_lt, i_le, i_eq, ne_eq, Bool.not_eq_true, Bool.not_eq_false, hpB, decide_eq_true_eq, decide_eq_false_iff_not, li_0, li_1, li_2, li_3, li_4, li_5, li_6, li_7, li_8, li_9, li_10, li_20, li_40, li_99, li_100, li_255, li_899, li_999, li_m1, li_m2, li_m3, li_m4, li_m11, li_m12, li_m13, li_m14, li_m100] at h1 h7 h11 h17 htk hl32 h32 ⊢) <;> omega)) | (refine (if_neg ?_).trans ?_; ((try simp only [inB_t, inB_f, i_lt, i_le, i_eq, ne_eq, Bool.not_eq_true, Bool.not_eq_false, hpB, decide_eq_true_eq, decide_eq_false_iff_not, li_0, li_1, li_2, li_3, li_4, li_5, li_6, li_7, li_8, li_9, li_10, li_20, li_40, li_99, li_100, li_255, li_899, li_999, li_m1, li_m2, li_m3, li_m4, li_m11, li_m12, li_m13, li_m14, li_m100] at h1 h7 h11 h17 htk hl32 h32 ⊢) <;> omega)) | fail)
                  all_goals (first | with_reducible rfl | (exfalso; ((try simp only [inB_t, inB_f, i_lt, i_le, i_eq, ne_eq, Bool.not_eq_true, Bool.not_eq_false, hpB, decide_eq_true_eq, decide_eq_false_iff_not, li_0, li_1, li_2, li_3, li_4, li_5, li_6, li_7, li_8, li_9, li_10, li_20, li_40, li_99, li_100, li_255, li_899, li_999, li_m1, li_m2, li_m3, li_m4, li_m11, li_m12, li_m13, li_m14, li_m100] at h1 h7 h11 h17 htk hl32 h32 ⊢) <;> omega)))) (rc_new_ h hn5 hk x2))
          · refine x_bipush (pc := 35) (v := (-4)) C dX11_bring_35 rfl ?_
            exact x_iret (pc := 37) C X dX11_bring_37 (fin (by
                  unfold o_disk
                  simp only [hok]
                  repeat (first | with_reducible rfl | (refine (if_pos ?_).trans ?_; ((try simp only [inB_t, inB_f, i_lt, i_le, i_eq, ne_eq, Bool.not_eq_true, Bool.not_eq_false, hpB, decide_eq_true_eq, decide_eq_false_iff_not, li_0, li_1, li_2, li_3, li_4, li_5, li_6, li_7, li_8, li_9, li_10, li_20, li_40, li_99, li_100, li_255, li_899, li_999, li_m1, li_m2, li_m3, li_m4, li_m11, li_m12, li_m13, li_m14, li_m100] at h1 h7 h11 h17 htk hl32 h32 ⊢) <;> omega)) | (refine (if_neg ?_).trans ?_; ((try simp only [inB_t, inB_f, i_lt, i_le, i_eq, ne_eq, Bool.not_eq_true, Bool.not_eq_false, hpB, decide_eq_true_eq, decide_eq_false_iff_not, li_0, li_1, li_2, li_3, li_4, li_5, li_6, li_7, li_8, li_9, li_10, li_20, li_40, li_99, li_100, li_255, li_899, li_999, li_m1, li_m2, li_m3, li_m4, li_m11, li_m12, li_m13, li_m14, li_m100] at h1 h7 h11 h17 htk hl32 h32 ⊢) <;> omega)) | fail)
                  all_goals (first | with_reducible rfl | (exfalso; ((try simp only [inB_t, inB_f, i_lt, i_le, i_eq, ne_eq, Bool.not_eq_true, Bool.not_eq_false, hpB, decide_eq_true_eq, decide_eq_false_iff_not, li_0, li_1, li_2, li_3, li_4, li_5, li_6, li_7, li_8, li_9, li_10, li_20, li_40, li_99, li_100, li_255, li_899, li_999, li_m1, li_m2, li_m3, li_m4, li_m11, li_m12, li_m13, li_m14, li_m100] at h1 h7 h11 h17 htk hl32 h32 ⊢) <;> omega)))) h)
        · refine x_bipush (pc := 20) (v := (-2)) C dX11_bring_20 rfl ?_
          exact x_iret (pc := 22) C X dX11_bring_22 (fin (by
                unfold o_disk
                repeat (first | with_reducible rfl | (refine (if_pos ?_).trans ?_; ((try simp only [inB_t, inB_f, i_lt, i_le, i_eq, ne_eq, Bool.not_eq_true, Bool.not_eq_false, hpB, decide_eq_true_eq, decide_eq_false_iff_not, li_0, li_1, li_2, li_3, li_4, li_5, li_6, li_7, li_8, li_9, li_10, li_20, li_40, li_99, li_100, li_255, li_899, li_999, li_m1, li_m2, li_m3, li_m4, li_m11, li_m12, li_m13, li_m14, li_m100] at h1 h7 h11 h17 ⊢) <;> omega)) | (refine (if_neg ?_).trans ?_; ((try simp only [inB_t, inB_f, i_lt, i_le, i_eq, ne_eq, Bool.not_eq_true, Bool.not_eq_false, hpB, decide_eq_true_eq, decide_eq_false_iff_not, li_0, li_1, li_2, li_3, li_4, li_5, li_6, li_7, li_8, li_9, li_10, li_20, li_40, li_99, li_100, li_255, li_899, li_999, li_m1, li_m2, li_m3, li_m4, li_m11, li_m12, li_m13, li_m14, li_m100] at h1 h7 h11 h17 ⊢) <;> omega)) | fail)
                all_goals (first | with_reducible rfl | (exfalso; ((try simp only [inB_t, inB_f, i_lt, i_le, i_eq, ne_eq, Bool.not_eq_true, Bool.not_eq_false, hpB, decide_eq_true_eq, decide_eq_false_iff_not, li_0, li_1, li_2, li_3, li_4, li_5, li_6, li_7, li_8, li_9, li_10, li_20, li_40, li_99, li_100, li_255, li_899, li_999, li_m1, li_m2, li_m3, li_m4, li_m11, li_m12, li_m13, li_m14, li_m100] at h1 h7 h11 h17 ⊢) <;> omega)))) h)

set_option maxHeartbeats 1000000 in
theorem c_X11_disk (t : CT) {σ : SV} {M : MM} (h : RC σ M) (x1 x2 : Int32) : XMet (wC t) yX11_disk cX11_disk 3 (some .int) 5 [.ref (t.1 0), .int x1, .int x2] M (oR (o_disk σ x1 x2)) := by
  refine x_met RX11 (by decide) rfl (Nat.le_of_ble_eq_true rfl) (fun κ C X E => ?_)
  refine x_L (L' := [(0, .ref (t.1 0)), (1, .int x1), (2, .int x2)]) rfl ?_
  refine x_aload_n (pc := 0) C 0 dX11_disk_0 rfl ?_
  refine x_iload_n (pc := 1) C 1 dX11_disk_1 rfl ?_
  refine x_iload_n (pc := 2) C 2 dX11_disk_2 rfl ?_
  refine x_callV (pc := 3) C E [.int x1, .int x2] [] (c_X11_bring t h x1 x2) m_X11_bring q18_22 xo_main rfl (by decide) (Nat.le_of_ble_eq_true rfl) dX11_disk_3 rfl (fun r M' hc => ?_)
  obtain ⟨rfl, hR⟩ := hc
  exact x_iret (pc := 6) C X dX11_disk_6 ⟨rfl, hR⟩

set_option maxRecDepth 100000 in
set_option maxHeartbeats 4000000 in
theorem c_X11_force (t : CT) {σ : SV} {M : MM} (h : RC σ M)(x1 : Int32) : XMet (wC t) yX11_force cX11_force 3 (some .int) 1 [.ref (t.1 0), .int x1] M (oR (o_force σ x1)) := by
  refine x_met RX11 (by decide) rfl (Nat.le_of_ble_eq_true rfl) (fun κ C X E => ?_)
  refine x_L (L' := [(0, .ref (t.1 0)), (1, .int x1)]) rfl ?_
  have hn6 := rc_n6 h
  have hq6 := rc_q6 h
  have hq := rc_q h
  have hN6 := h.1.1
  have hB := h.1.2.1
  refine x_iload_n (pc := 0) C 1 dX11_force_0 rfl ?_
  refine x_if_lt (pc := 1) C 12 dX11_force_1 (by decide) (fun h1 => ?_) (fun h1 => ?_)
  · refine x_bipush (pc := 12) (v := (-2)) C dX11_force_12 rfl ?_
    exact x_iret (pc := 14) C X dX11_force_14 (fin (by
          unfold o_force
          repeat (first | with_reducible rfl | (refine (if_pos ?_).trans ?_; ((try simp only [inB_t, inB_f, i_lt, i_le, i_eq, ne_eq, Bool.not_eq_true, Bool.not_eq_false, hpB, decide_eq_true_eq, decide_eq_false_iff_not, li_0, li_1, li_2, li_3, li_4, li_5, li_6, li_7, li_8, li_9, li_10, li_20, li_40, li_99, li_100, li_255, li_899, li_999, li_m1, li_m2, li_m3, li_m4, li_m11, li_m12, li_m13, li_m14, li_m100] at h1 ⊢) <;> omega)) | (refine (if_neg ?_).trans ?_; ((try simp only [inB_t, inB_f, i_lt, i_le, i_eq, ne_eq, Bool.not_eq_true, Bool.not_eq_false, hpB, decide_eq_true_eq, decide_eq_false_iff_not, li_0, li_1, li_2, li_3, li_4, li_5, li_6, li_7, li_8, li_9, li_10, li_20, li_40, li_99, li_100, li_255, li_899, li_999, li_m1, li_m2, li_m3, li_m4, li_m11, li_m12, li_m13, li_m14, li_m100] at h1 ⊢) <;> omega)) | fail)
          all_goals (first | with_reducible rfl | (exfalso; ((try simp only [inB_t, inB_f, i_lt, i_le, i_eq, ne_eq, Bool.not_eq_true, Bool.not_eq_false, hpB, decide_eq_true_eq, decide_eq_false_iff_not, li_0, li_1, li_2, li_3, li_4, li_5, li_6, li_7, li_8, li_9, li_10, li_20, li_40, li_99, li_100, li_255, li_899, li_999, li_m1, li_m2, li_m3, li_m4, li_m11, li_m12, li_m13, li_m14, li_m100] at h1 ⊢) <;> omega)))) h)
  · refine x_iload_n (pc := 4) C 1 dX11_force_4 rfl ?_
    refine x_aload_n (pc := 5) C 0 dX11_force_5 rfl ?_
    refine g_main_textCount (pc := 6) C E q2_6 dX11_force_6 ?_
    refine x_eq (show M 0 8 = nI (sN σ) from rc_tc h) ?_
    have hl9 := nI_toInt (n := sN σ) (by omega)
    refine x_icmp_lt (pc := 9) C 15 dX11_force_9 (by decide) (fun h9 => ?_) (fun h9 => ?_)
    · have hk1 : inB x1 (sN σ) = true := (by ((try simp only [inB_t, inB_f, i_lt, i_le, i_eq, ne_eq, Bool.not_eq_true, Bool.not_eq_false, hpB, decide_eq_true_eq, decide_eq_false_iff_not, li_0, li_1, li_2, li_3, li_4, li_5, li_6, li_7, li_8, li_9, li_10, li_20, li_40, li_99, li_100, li_255, li_899, li_999, li_m1, li_m2, li_m3, li_m4, li_m11, li_m12, li_m13, li_m14, li_m100] at h1 hl9 h9 ⊢) <;> omega))
      obtain ⟨k, hk, ek⟩ := inB_of hk1 (by omega)
      have htk := nI_toInt (n := k) (by omega)
      have hok := oN_nI (n := k) (by omega)
      subst ek
      refine x_aload_n (pc := 15) C 0 dX11_force_15 rfl ?_
      refine g_main_now (pc := 16) C E q2_1 dX11_force_16 ?_
      refine g_World_rule (pc := 19) C E (i := 0) (by omega) q23_19 dX11_force_19 ?_
      refine x_eq (show M (7 + 0) 1 = nI (vR (sV σ)) from rc_rule h) ?_
      refine x_istore_n (pc := 22) (L' := [(2, .int (nI (vR (sV σ)))), (0, .ref (t.1 0)), (1, .int (nI k))]) C dX11_force_22 (by decide) rfl ?_
      refine x_aload_n (pc := 23) C 1 dX11_force_23 rfl ?_
      refine g_main_now (pc := 24) C E q2_1 dX11_force_24 ?_
      refine x_iload_n (pc := 27) C 2 dX11_force_27 rfl ?_
      refine p_World_rule (pc := 28) C E (i := 0) (by omega) q23_19 dX11_force_28 ?_
      refine x_iload_n (pc := 31) C 0 dX11_force_31 rfl ?_
      exact x_iret (pc := 32) C X dX11_force_32 (fin (by
            unfold o_force
            simp only [hok]
            repeat (first | with_reducible rfl | (refine (if_pos ?_).trans ?_; ((try simp only [inB_t, inB_f, i_lt, i_le, i_eq, ne_eq, Bool.not_eq_true, Bool.not_eq_false, hpB, decide_eq_true_eq, decide_eq_false_iff_not, li_0, li_1, li_2, li_3, li_4, li_5, li_6, li_7, li_8, li_9, li_10, li_20, li_40, li_99, li_100, li_255, li_899, li_999, li_m1, li_m2, li_m3, li_m4, li_m11, li_m12, li_m13, li_m14, li_m100] at h1 hl9 h9 htk ⊢) <;> omega)) | (refine (if_neg ?_).trans ?_; ((try simp only [inB_t, inB_f, i_lt, i_le, i_eq, ne_eq, Bool.not_eq_true, Bool.not_eq_false, hpB, decide_eq_true_eq, decide_eq_false_iff_not, li_0, li_1, li_2, li_3, li_4, li_5, li_6, li_7, li_8, li_9, li_10, li_20, li_40, li_99, li_100, li_255, li_899, li_999, li_m1, li_m2, li_m3, li_m4, li_m11, li_m12, li_m13, li_m14, li_m100] at h1 hl9 h9 htk ⊢) <;> omega)) | fail)
            all_goals (first | with_reducible rfl | (exfalso; ((try simp only [inB_t, inB_f, i_lt, i_le, i_eq, ne_eq, Bool.not_eq_true, Bool.not_eq_false, hpB, decide_eq_true_eq, decide_eq_false_iff_not, li_0, li_1, li_2, li_3, li_4, li_5, li_6, li_7, li_8, li_9, li_10, li_20, li_40, li_99, li_100, li_255, li_899, li_999, li_m1, li_m2, li_m3, li_m4, li_m11, li_m12, li_m13, li_m14, li_m100] at h1 hl9 h9 htk ⊢) <;> omega)))) (rc_rul_ h hk))
    · refine x_bipush (pc := 12) (v := (-2)) C dX11_force_12 rfl ?_
      exact x_iret (pc := 14) C X dX11_force_14 (fin (by
            unfold o_force
            repeat (first | with_reducible rfl | (refine (if_pos ?_).trans ?_; ((try simp only [inB_t, inB_f, i_lt, i_le, i_eq, ne_eq, Bool.not_eq_true, Bool.not_eq_false, hpB, decide_eq_true_eq, decide_eq_false_iff_not, li_0, li_1, li_2, li_3, li_4, li_5, li_6, li_7, li_8, li_9, li_10, li_20, li_40, li_99, li_100, li_255, li_899, li_999, li_m1, li_m2, li_m3, li_m4, li_m11, li_m12, li_m13, li_m14, li_m100] at h1 hl9 h9 ⊢) <;> omega)) | (refine (if_neg ?_).trans ?_; ((try simp only [inB_t, inB_f, i_lt, i_le, i_eq, ne_eq, Bool.not_eq_true, Bool.not_eq_false, hpB, decide_eq_true_eq, decide_eq_false_iff_not, li_0, li_1, li_2, li_3, li_4, li_5, li_6, li_7, li_8, li_9, li_10, li_20, li_40, li_99, li_100, li_255, li_899, li_999, li_m1, li_m2, li_m3, li_m4, li_m11, li_m12, li_m13, li_m14, li_m100] at h1 hl9 h9 ⊢) <;> omega)) | fail)
            all_goals (first | with_reducible rfl | (exfalso; ((try simp only [inB_t, inB_f, i_lt, i_le, i_eq, ne_eq, Bool.not_eq_true, Bool.not_eq_false, hpB, decide_eq_true_eq, decide_eq_false_iff_not, li_0, li_1, li_2, li_3, li_4, li_5, li_6, li_7, li_8, li_9, li_10, li_20, li_40, li_99, li_100, li_255, li_899, li_999, li_m1, li_m2, li_m3, li_m4, li_m11, li_m12, li_m13, li_m14, li_m100] at h1 hl9 h9 ⊢) <;> omega)))) h)

set_option maxRecDepth 100000 in
set_option maxHeartbeats 4000000 in
theorem c_X11_on (t : CT) {σ : SV} {M : MM} (h : RC σ M)(x1 : Int32) : XMet (wC t) yX11_on cX11_on 2 (some .int) 7 [.ref (t.1 0), .int x1] M (aR σ (a_on σ x1)) := by
  refine x_met RX11 (by decide) rfl (Nat.le_of_ble_eq_true rfl) (fun κ C X E => ?_)
  refine x_L (L' := [(0, .ref (t.1 0)), (1, .int x1)]) rfl ?_
  have hn6 := rc_n6 h
  have hq6 := rc_q6 h
  have hq := rc_q h
  have hN6 := h.1.1
  have hB := h.1.2.1
  refine x_iload_n (pc := 0) C 1 dX11_on_0 rfl ?_
  refine x_callS (pc := 1) C E [.int x1] [] (c_X11_isFile t _ _) m_X11_isFile q25_15 rfl (by decide) (Nat.le_of_ble_eq_true rfl) dX11_on_1 rfl (k_I ?_)
  refine x_ifb_eq (pc := 4) C 18 dX11_on_4 (by decide) (fun h4 => ?_) (fun h4 => ?_)
  · refine x_bipush (pc := 18) (v := (-2)) C dX11_on_18 rfl ?_
    exact x_iret (pc := 20) C X dX11_on_20 (fia (by
          unfold a_on
          repeat (first | with_reducible rfl | (refine (if_pos ?_).trans ?_; ((try simp only [inB_t, inB_f, i_lt, i_le, i_eq, ne_eq, Bool.not_eq_true, Bool.not_eq_false, hpB, decide_eq_true_eq, decide_eq_false_iff_not, li_0, li_1, li_2, li_3, li_4, li_5, li_6, li_7, li_8, li_9, li_10, li_20, li_40, li_99, li_100, li_255, li_899, li_999, li_m1, li_m2, li_m3, li_m4, li_m11, li_m12, li_m13, li_m14, li_m100] at h4 ⊢) <;> omega)) | (refine (if_neg ?_).trans ?_; ((try simp only [inB_t, inB_f, i_lt, i_le, i_eq, ne_eq, Bool.not_eq_true, Bool.not_eq_false, hpB, decide_eq_true_eq, decide_eq_false_iff_not, li_0, li_1, li_2, li_3, li_4, li_5, li_6, li_7, li_8, li_9, li_10, li_20, li_40, li_99, li_100, li_255, li_899, li_999, li_m1, li_m2, li_m3, li_m4, li_m11, li_m12, li_m13, li_m14, li_m100] at h4 ⊢) <;> omega)) | fail)
          all_goals (first | with_reducible rfl | (exfalso; ((try simp only [inB_t, inB_f, i_lt, i_le, i_eq, ne_eq, Bool.not_eq_true, Bool.not_eq_false, hpB, decide_eq_true_eq, decide_eq_false_iff_not, li_0, li_1, li_2, li_3, li_4, li_5, li_6, li_7, li_8, li_9, li_10, li_20, li_40, li_99, li_100, li_255, li_899, li_999, li_m1, li_m2, li_m3, li_m4, li_m11, li_m12, li_m13, li_m14, li_m100] at h4 ⊢) <;> omega)))) h)
  · obtain ⟨f, hf, ef⟩ := inB_of h4 (by omega)
    have htf := nI_toInt (n := f) (by omega)
    have hof := oN_nI (n := f) (by omega)
    subst ef
    refine x_aload_n (pc := 7) C 0 dX11_on_7 rfl ?_
    refine g_main_now (pc := 8) C E q2_1 dX11_on_8 ?_
    refine x_iload_n (pc := 11) C 1 dX11_on_11 rfl ?_
    refine x_callV (pc := 12) C E [.int (nI f)] [] (w_holders t (by decide : 0 < 3) h.2.1 (by omega)) m_X10_holders q31_12 (xo_World (i := 0) (by omega)) rfl (by decide) (Nat.le_of_ble_eq_true rfl) dX11_on_12 rfl (k_I ?_)
    refine x_goto (pc := 15) C 20 dX11_on_15 (by decide) ?_
    exact x_iret (pc := 20) C X dX11_on_20 (fia (by
          unfold a_on
          simp only [hof]
          repeat (first | with_reducible rfl | (refine (if_pos ?_).trans ?_; ((try simp only [inB_t, inB_f, i_lt, i_le, i_eq, ne_eq, Bool.not_eq_true, Bool.not_eq_false, hpB, decide_eq_true_eq, decide_eq_false_iff_not, li_0, li_1, li_2, li_3, li_4, li_5, li_6, li_7, li_8, li_9, li_10, li_20, li_40, li_99, li_100, li_255, li_899, li_999, li_m1, li_m2, li_m3, li_m4, li_m11, li_m12, li_m13, li_m14, li_m100] at h4 htf ⊢) <;> omega)) | (refine (if_neg ?_).trans ?_; ((try simp only [inB_t, inB_f, i_lt, i_le, i_eq, ne_eq, Bool.not_eq_true, Bool.not_eq_false, hpB, decide_eq_true_eq, decide_eq_false_iff_not, li_0, li_1, li_2, li_3, li_4, li_5, li_6, li_7, li_8, li_9, li_10, li_20, li_40, li_99, li_100, li_255, li_899, li_999, li_m1, li_m2, li_m3, li_m4, li_m11, li_m12, li_m13, li_m14, li_m100] at h4 htf ⊢) <;> omega)) | fail)
          all_goals (first | with_reducible rfl | (exfalso; ((try simp only [inB_t, inB_f, i_lt, i_le, i_eq, ne_eq, Bool.not_eq_true, Bool.not_eq_false, hpB, decide_eq_true_eq, decide_eq_false_iff_not, li_0, li_1, li_2, li_3, li_4, li_5, li_6, li_7, li_8, li_9, li_10, li_20, li_40, li_99, li_100, li_255, li_899, li_999, li_m1, li_m2, li_m3, li_m4, li_m11, li_m12, li_m13, li_m14, li_m100] at h4 htf ⊢) <;> omega)))) h)

