set_option maxRecDepth 100000 in
set_option maxHeartbeats 800000 in
theorem c_X12_newest (t : CT) {σ : SV} {M : MM} (h : RR σ M) (hg : M 0 28 = 0) (x1 x2 : Int32)  : XMet (wR t) yX12_newest cX12_newest 4 (some .int) 4 [.ref (t.1 0), .int x1, .int x2] M (oQ (σ, a_newest σ x1 x2)) := by
  refine x_met RX12 (by decide) rfl (Nat.le_of_ble_eq_true rfl) (fun κ C X E => ?_)
  refine x_L (L' := [(0, .ref (t.1 0)), (1, .int x1), (2, .int x2)]) rfl ?_
  have hn6 := rr_n6 h
  have hN6 := h.1.1
  have hq := rr_q h
  have hB := h.1.2.1
  refine x_iload_n (pc := 0) C 1 dX12_newest_0 rfl ?_
  refine x_callS (pc := 1) C E [.int x1] [] (c_X12_isFile t _ _) m_X12_isFile q25_22 rfl (by decide) (Nat.le_of_ble_eq_true rfl) dX12_newest_1 rfl (k_I ?_)
  refine x_ifb_eq (pc := 4) C 19 dX12_newest_4 (by decide) (fun h4 => ?_) (fun h4 => ?_)
  · refine x_bipush (pc := 19) (v := (-2)) C dX12_newest_19 rfl ?_
    exact x_iret (pc := 21) C X dX12_newest_21 (faq (by
          unfold a_newest
          repeat (first | with_reducible rfl | (refine (if_pos ?_).trans ?_; ((try simp only [inB_t, inB_f, i_lt, i_le, i_eq, ne_eq, Bool.not_eq_true, Bool.not_eq_false, hpB, decide_eq_true_eq, decide_eq_false_iff_not, li_0, li_1, li_2, li_3, li_4, li_5, li_6, li_7, li_8, li_9, li_10, li_20, li_40, li_99, li_100, li_255, li_899, li_999, li_m1, li_m2, li_m3, li_m4, li_m11, li_m12, li_m13, li_m14, li_m100] at h4 ⊢) <;> omega)) | (refine (if_neg ?_).trans ?_; ((try simp only [inB_t, inB_f, i_lt, i_le, i_eq, ne_eq, Bool.not_eq_true, Bool.not_eq_false, hpB, decide_eq_true_eq, decide_eq_false_iff_not, li_0, li_1, li_2, li_3, li_4, li_5, li_6, li_7, li_8, li_9, li_10, li_20, li_40, li_99, li_100, li_255, li_899, li_999, li_m1, li_m2, li_m3, li_m4, li_m11, li_m12, li_m13, li_m14, li_m100] at h4 ⊢) <;> omega)) | fail)
          all_goals (first | with_reducible rfl | (exfalso; ((try simp only [inB_t, inB_f, i_lt, i_le, i_eq, ne_eq, Bool.not_eq_true, Bool.not_eq_false, hpB, decide_eq_true_eq, decide_eq_false_iff_not, li_0, li_1, li_2, li_3, li_4, li_5, li_6, li_7, li_8, li_9, li_10, li_20, li_40, li_99, li_100, li_255, li_899, li_999, li_m1, li_m2, li_m3, li_m4, li_m11, li_m12, li_m13, li_m14, li_m100] at h4 ⊢) <;> omega)))) h hg)
  · obtain ⟨f, hf, ef⟩ := inB_of h4 (by omega)
    have htf := nI_toInt (n := f) (by omega)
    have hof := oN_nI (n := f) (by omega)
    subst ef
    refine x_iload_n (pc := 7) C 2 dX12_newest_7 rfl ?_
    refine x_i2l (pc := 8) C dX12_newest_8 ?_
    refine x_lconst (pc := 9) (v := 0) C dX12_newest_9 rfl ?_
    refine x_ldc2 (pc := 10) (v := 2) C q13_3 dX12_newest_10 ?_
    refine x_callS (pc := 13) C E [.long (Int32.toInt64 x2), .long 0, .long 2] [] (c_X12_inB t _ x2 (n := 3) (by decide) (by decide)) m_X12_in q13_6 rfl (by decide) (Nat.le_of_ble_eq_true rfl) dX12_newest_13 rfl (k_I ?_)
    refine x_ifb_ne (pc := 16) C 22 dX12_newest_16 (by decide) (fun h16 => ?_) (fun h16 => ?_)
    · refine x_aload_n (pc := 22) C 0 dX12_newest_22 rfl ?_
      refine x_iload_n (pc := 23) C 1 dX12_newest_23 rfl ?_
      refine x_callV (pc := 24) C E [.int (nI f)] [] (c_X12_newestOf t h hg (f := f) (by omega)) m_X12_newestOf q32_22 xo_M rfl (by first | decide | omega) (Nat.le_of_ble_eq_true rfl) dX12_newest_24 rfl (k_I ?_)
      refine x_istore_n (pc := 27) (L' := [(3, .int (encO (vNh (sV (σ)) f (vN (sV (σ)))))), (0, .ref (t.1 0)), (1, .int (nI f)), (2, .int x2)]) C dX12_newest_27 (by decide) rfl ?_
      cases ho : vNh (sV σ) f (vN (sV σ)) with
      | none =>
        refine x_L (L' := [(3, .int (-1)), (0, .ref (t.1 0)), (1, .int (nI f)), (2, .int x2)]) rfl ?_
        refine x_iload_n (pc := 28) C 3 dX12_newest_28 rfl ?_
        refine x_if_eq (pc := 29) C 37 dX12_newest_29 (by decide) (fun h29 => ?_) (fun h29 => ?_)
        · refine x_iload_n (pc := 37) C 3 dX12_newest_37 rfl ?_
          refine x_iconst (pc := 38) (v := 2) C dX12_newest_38 rfl ?_
          refine x_icmp_ne (pc := 39) C 47 dX12_newest_39 (by decide) (fun h39 => ?_) (fun h39 => ?_)
          · refine x_iload_n (pc := 47) C 0 dX12_newest_47 rfl ?_
            exact x_iret (pc := 48) C X dX12_newest_48 (faq (by
                  refine (a_newest_n ?_ (by rw [hof]; exact ho)).trans ?_
                  · ((try simp only [inB_t, inB_f, i_lt, i_le, i_eq, ne_eq, Bool.not_eq_true, Bool.not_eq_false, hpB, decide_eq_true_eq, decide_eq_false_iff_not, li_0, li_1, li_2, li_3, li_4, li_5, li_6, li_7, li_8, li_9, li_10, li_20, li_40, li_99, li_100, li_255, li_899, li_999, li_m1, li_m2, li_m3, li_m4, li_m11, li_m12, li_m13, li_m14, li_m100] at h4 htf h16 h29 h39 ⊢) <;> omega)
                  (try simp only [hof])
                  repeat (first | with_reducible rfl | (refine (if_pos ?_).trans ?_; ((try simp only [inB_t, inB_f, i_lt, i_le, i_eq, ne_eq, Bool.not_eq_true, Bool.not_eq_false, hpB, decide_eq_true_eq, decide_eq_false_iff_not, li_0, li_1, li_2, li_3, li_4, li_5, li_6, li_7, li_8, li_9, li_10, li_20, li_40, li_99, li_100, li_255, li_899, li_999, li_m1, li_m2, li_m3, li_m4, li_m11, li_m12, li_m13, li_m14, li_m100] at h4 htf h16 h29 h39 ⊢) <;> omega)) | (refine (if_neg ?_).trans ?_; ((try simp only [inB_t, inB_f, i_lt, i_le, i_eq, ne_eq, Bool.not_eq_true, Bool.not_eq_false, hpB, decide_eq_true_eq, decide_eq_false_iff_not, li_0, li_1, li_2, li_3, li_4, li_5, li_6, li_7, li_8, li_9, li_10, li_20, li_40, li_99, li_100, li_255, li_899, li_999, li_m1, li_m2, li_m3, li_m4, li_m11, li_m12, li_m13, li_m14, li_m100] at h4 htf h16 h29 h39 ⊢) <;> omega)) | fail)
                  all_goals (first | rfl | (exfalso; ((try simp only [inB_t, inB_f, i_lt, i_le, i_eq, ne_eq, Bool.not_eq_true, Bool.not_eq_false, hpB, decide_eq_true_eq, decide_eq_false_iff_not, li_0, li_1, li_2, li_3, li_4, li_5, li_6, li_7, li_8, li_9, li_10, li_20, li_40, li_99, li_100, li_255, li_899, li_999, li_m1, li_m2, li_m3, li_m4, li_m11, li_m12, li_m13, li_m14, li_m100] at h4 htf h16 h29 h39 ⊢) <;> omega)))) h hg)
          · refine x_bipush (pc := 42) (v := (-100)) C dX12_newest_42 rfl ?_
            refine x_goto (pc := 44) C 48 dX12_newest_44 (by decide) ?_
            exact x_iret (pc := 48) C X dX12_newest_48 (faq (by
                  refine (a_newest_n ?_ (by rw [hof]; exact ho)).trans ?_
                  · ((try simp only [inB_t, inB_f, i_lt, i_le, i_eq, ne_eq, Bool.not_eq_true, Bool.not_eq_false, hpB, decide_eq_true_eq, decide_eq_false_iff_not, li_0, li_1, li_2, li_3, li_4, li_5, li_6, li_7, li_8, li_9, li_10, li_20, li_40, li_99, li_100, li_255, li_899, li_999, li_m1, li_m2, li_m3, li_m4, li_m11, li_m12, li_m13, li_m14, li_m100] at h4 htf h16 h29 h39 ⊢) <;> omega)
                  (try simp only [hof])
                  repeat (first | with_reducible rfl | (refine (if_pos ?_).trans ?_; ((try simp only [inB_t, inB_f, i_lt, i_le, i_eq, ne_eq, Bool.not_eq_true, Bool.not_eq_false, hpB, decide_eq_true_eq, decide_eq_false_iff_not, li_0, li_1, li_2, li_3, li_4, li_5, li_6, li_7, li_8, li_9, li_10, li_20, li_40, li_99, li_100, li_255, li_899, li_999, li_m1, li_m2, li_m3, li_m4, li_m11, li_m12, li_m13, li_m14, li_m100] at h4 htf h16 h29 h39 ⊢) <;> omega)) | (refine (if_neg ?_).trans ?_; ((try simp only [inB_t, inB_f, i_lt, i_le, i_eq, ne_eq, Bool.not_eq_true, Bool.not_eq_false, hpB, decide_eq_true_eq, decide_eq_false_iff_not, li_0, li_1, li_2, li_3, li_4, li_5, li_6, li_7, li_8, li_9, li_10, li_20, li_40, li_99, li_100, li_255, li_899, li_999, li_m1, li_m2, li_m3, li_m4, li_m11, li_m12, li_m13, li_m14, li_m100] at h4 htf h16 h29 h39 ⊢) <;> omega)) | fail)
                  all_goals (first | rfl | (exfalso; ((try simp only [inB_t, inB_f, i_lt, i_le, i_eq, ne_eq, Bool.not_eq_true, Bool.not_eq_false, hpB, decide_eq_true_eq, decide_eq_false_iff_not, li_0, li_1, li_2, li_3, li_4, li_5, li_6, li_7, li_8, li_9, li_10, li_20, li_40, li_99, li_100, li_255, li_899, li_999, li_m1, li_m2, li_m3, li_m4, li_m11, li_m12, li_m13, li_m14, li_m100] at h4 htf h16 h29 h39 ⊢) <;> omega)))) h hg)
        · refine x_iload_n (pc := 32) C 0 dX12_newest_32 rfl ?_
          refine x_iconst (pc := 33) (v := (-1)) C dX12_newest_33 rfl ?_
          refine x_icmp_ne_f (pc := 34) C 49 dX12_newest_34 (by decide) rfl ?_
          refine x_iload_n (pc := 37) C 3 dX12_newest_37 rfl ?_
          refine x_iconst (pc := 38) (v := 2) C dX12_newest_38 rfl ?_
          refine x_icmp_ne (pc := 39) C 47 dX12_newest_39 (by decide) (fun h39 => ?_) (fun h39 => ?_)
          · refine x_iload_n (pc := 47) C 0 dX12_newest_47 rfl ?_
            exact x_iret (pc := 48) C X dX12_newest_48 (faq (by
                  refine (a_newest_n ?_ (by rw [hof]; exact ho)).trans ?_
                  · ((try simp only [inB_t, inB_f, i_lt, i_le, i_eq, ne_eq, Bool.not_eq_true, Bool.not_eq_false, hpB, decide_eq_true_eq, decide_eq_false_iff_not, li_0, li_1, li_2, li_3, li_4, li_5, li_6, li_7, li_8, li_9, li_10, li_20, li_40, li_99, li_100, li_255, li_899, li_999, li_m1, li_m2, li_m3, li_m4, li_m11, li_m12, li_m13, li_m14, li_m100] at h4 htf h16 h29 h39 ⊢) <;> omega)
                  (try simp only [hof])
                  repeat (first | with_reducible rfl | (refine (if_pos ?_).trans ?_; ((try simp only [inB_t, inB_f, i_lt, i_le, i_eq, ne_eq, Bool.not_eq_true, Bool.not_eq_false, hpB, decide_eq_true_eq, decide_eq_false_iff_not, li_0, li_1, li_2, li_3, li_4, li_5, li_6, li_7, li_8, li_9, li_10, li_20, li_40, li_99, li_100, li_255, li_899, li_999, li_m1, li_m2, li_m3, li_m4, li_m11, li_m12, li_m13, li_m14, li_m100] at h4 htf h16 h29 h39 ⊢) <;> omega)) | (refine (if_neg ?_).trans ?_; ((try simp only [inB_t, inB_f, i_lt, i_le, i_eq, ne_eq, Bool.not_eq_true, Bool.not_eq_false, hpB, decide_eq_true_eq, decide_eq_false_iff_not, li_0, li_1, li_2, li_3, li_4, li_5, li_6, li_7, li_8, li_9, li_10, li_20, li_40, li_99, li_100, li_255, li_899, li_999, li_m1, li_m2, li_m3, li_m4, li_m11, li_m12, li_m13, li_m14, li_m100] at h4 htf h16 h29 h39 ⊢) <;> omega)) | fail)
                  all_goals (first | rfl | (exfalso; ((try simp only [inB_t, inB_f, i_lt, i_le, i_eq, ne_eq, Bool.not_eq_true, Bool.not_eq_false, hpB, decide_eq_true_eq, decide_eq_false_iff_not, li_0, li_1, li_2, li_3, li_4, li_5, li_6, li_7, li_8, li_9, li_10, li_20, li_40, li_99, li_100, li_255, li_899, li_999, li_m1, li_m2, li_m3, li_m4, li_m11, li_m12, li_m13, li_m14, li_m100] at h4 htf h16 h29 h39 ⊢) <;> omega)))) h hg)
          · refine x_bipush (pc := 42) (v := (-100)) C dX12_newest_42 rfl ?_
            refine x_goto (pc := 44) C 48 dX12_newest_44 (by decide) ?_
            exact x_iret (pc := 48) C X dX12_newest_48 (faq (by
                  refine (a_newest_n ?_ (by rw [hof]; exact ho)).trans ?_
                  · ((try simp only [inB_t, inB_f, i_lt, i_le, i_eq, ne_eq, Bool.not_eq_true, Bool.not_eq_false, hpB, decide_eq_true_eq, decide_eq_false_iff_not, li_0, li_1, li_2, li_3, li_4, li_5, li_6, li_7, li_8, li_9, li_10, li_20, li_40, li_99, li_100, li_255, li_899, li_999, li_m1, li_m2, li_m3, li_m4, li_m11, li_m12, li_m13, li_m14, li_m100] at h4 htf h16 h29 h39 ⊢) <;> omega)
                  (try simp only [hof])
                  repeat (first | with_reducible rfl | (refine (if_pos ?_).trans ?_; ((try simp only [inB_t, inB_f, i_lt, i_le, i_eq, ne_eq, Bool.not_eq_true, Bool.not_eq_false, hpB, decide_eq_true_eq, decide_eq_false_iff_not, li_0, li_1, li_2, li_3, li_4, li_5, li_6, li_7, li_8, li_9, li_10, li_20, li_40, li_99, li_100, li_255, li_899, li_999, li_m1, li_m2, li_m3, li_m4, li_m11, li_m12, li_m13, li_m14, li_m100] at h4 htf h16 h29 h39 ⊢) <;> omega)) | (refine (if_neg ?_).trans ?_; ((try simp only [inB_t, inB_f, i_lt, i_le, i_eq, ne_eq, Bool.not_eq_true, Bool.not_eq_false, hpB, decide_eq_true_eq, decide_eq_false_iff_not, li_0, li_1, li_2, li_3, li_4, li_5, li_6, li_7, li_8, li_9, li_10, li_20, li_40, li_99, li_100, li_255, li_899, li_999, li_m1, li_m2, li_m3, li_m4, li_m11, li_m12, li_m13, li_m14, li_m100] at h4 htf h16 h29 h39 ⊢) <;> omega)) | fail)
                  all_goals (first | rfl | (exfalso; ((try simp only [inB_t, inB_f, i_lt, i_le, i_eq, ne_eq, Bool.not_eq_true, Bool.not_eq_false, hpB, decide_eq_true_eq, decide_eq_false_iff_not, li_0, li_1, li_2, li_3, li_4, li_5, li_6, li_7, li_8, li_9, li_10, li_20, li_40, li_99, li_100, li_255, li_899, li_999, li_m1, li_m2, li_m3, li_m4, li_m11, li_m12, li_m13, li_m14, li_m100] at h4 htf h16 h29 h39 ⊢) <;> omega)))) h hg)
      | some d =>
        have hd : d < vN (sV σ) := vNh_lt ho
        have htd := nI_toInt (n := d) (by omega)
        refine x_L (L' := [(3, .int (nI d)), (0, .ref (t.1 0)), (1, .int (nI f)), (2, .int x2)]) rfl ?_
        refine x_iload_n (pc := 28) C 3 dX12_newest_28 rfl ?_
        refine x_if_eq (pc := 29) C 37 dX12_newest_29 (by decide) (fun h29 => ?_) (fun h29 => ?_)
        · refine x_iload_n (pc := 37) C 3 dX12_newest_37 rfl ?_
          refine x_iconst (pc := 38) (v := 2) C dX12_newest_38 rfl ?_
          refine x_icmp_ne (pc := 39) C 47 dX12_newest_39 (by decide) (fun h39 => ?_) (fun h39 => ?_)
          · refine x_iload_n (pc := 47) C 0 dX12_newest_47 rfl ?_
            exact x_iret (pc := 48) C X dX12_newest_48 (faq (by
                  refine (a_newest_s ?_ (by rw [hof]; exact ho)).trans ?_
                  · ((try simp only [inB_t, inB_f, i_lt, i_le, i_eq, ne_eq, Bool.not_eq_true, Bool.not_eq_false, hpB, decide_eq_true_eq, decide_eq_false_iff_not, li_0, li_1, li_2, li_3, li_4, li_5, li_6, li_7, li_8, li_9, li_10, li_20, li_40, li_99, li_100, li_255, li_899, li_999, li_m1, li_m2, li_m3, li_m4, li_m11, li_m12, li_m13, li_m14, li_m100] at h4 htf h16 h29 h39 ⊢) <;> omega)
                  (try simp only [hof])
                  repeat (first | with_reducible rfl | (refine (if_pos ?_).trans ?_; ((try simp only [inB_t, inB_f, i_lt, i_le, i_eq, ne_eq, Bool.not_eq_true, Bool.not_eq_false, hpB, decide_eq_true_eq, decide_eq_false_iff_not, li_0, li_1, li_2, li_3, li_4, li_5, li_6, li_7, li_8, li_9, li_10, li_20, li_40, li_99, li_100, li_255, li_899, li_999, li_m1, li_m2, li_m3, li_m4, li_m11, li_m12, li_m13, li_m14, li_m100] at h4 htf h16 h29 h39 ⊢) <;> omega)) | (refine (if_neg ?_).trans ?_; ((try simp only [inB_t, inB_f, i_lt, i_le, i_eq, ne_eq, Bool.not_eq_true, Bool.not_eq_false, hpB, decide_eq_true_eq, decide_eq_false_iff_not, li_0, li_1, li_2, li_3, li_4, li_5, li_6, li_7, li_8, li_9, li_10, li_20, li_40, li_99, li_100, li_255, li_899, li_999, li_m1, li_m2, li_m3, li_m4, li_m11, li_m12, li_m13, li_m14, li_m100] at h4 htf h16 h29 h39 ⊢) <;> omega)) | fail)
                  all_goals (first | rfl | (exfalso; ((try simp only [inB_t, inB_f, i_lt, i_le, i_eq, ne_eq, Bool.not_eq_true, Bool.not_eq_false, hpB, decide_eq_true_eq, decide_eq_false_iff_not, li_0, li_1, li_2, li_3, li_4, li_5, li_6, li_7, li_8, li_9, li_10, li_20, li_40, li_99, li_100, li_255, li_899, li_999, li_m1, li_m2, li_m3, li_m4, li_m11, li_m12, li_m13, li_m14, li_m100] at h4 htf h16 h29 h39 ⊢) <;> omega)))) h hg)
          · refine x_bipush (pc := 42) (v := (-100)) C dX12_newest_42 rfl ?_
            refine x_goto (pc := 44) C 48 dX12_newest_44 (by decide) ?_
            exact x_iret (pc := 48) C X dX12_newest_48 (faq (by
                  refine (a_newest_s ?_ (by rw [hof]; exact ho)).trans ?_
                  · ((try simp only [inB_t, inB_f, i_lt, i_le, i_eq, ne_eq, Bool.not_eq_true, Bool.not_eq_false, hpB, decide_eq_true_eq, decide_eq_false_iff_not, li_0, li_1, li_2, li_3, li_4, li_5, li_6, li_7, li_8, li_9, li_10, li_20, li_40, li_99, li_100, li_255, li_899, li_999, li_m1, li_m2, li_m3, li_m4, li_m11, li_m12, li_m13, li_m14, li_m100] at h4 htf h16 h29 h39 ⊢) <;> omega)
                  (try simp only [hof])
                  repeat (first | with_reducible rfl | (refine (if_pos ?_).trans ?_; ((try simp only [inB_t, inB_f, i_lt, i_le, i_eq, ne_eq, Bool.not_eq_true, Bool.not_eq_false, hpB, decide_eq_true_eq, decide_eq_false_iff_not, li_0, li_1, li_2, li_3, li_4, li_5, li_6, li_7, li_8, li_9, li_10, li_20, li_40, li_99, li_100, li_255, li_899, li_999, li_m1, li_m2, li_m3, li_m4, li_m11, li_m12, li_m13, li_m14, li_m100] at h4 htf h16 h29 h39 ⊢) <;> omega)) | (refine (if_neg ?_).trans ?_; ((try simp only [inB_t, inB_f, i_lt, i_le, i_eq, ne_eq, Bool.not_eq_true, Bool.not_eq_false, hpB, decide_eq_true_eq, decide_eq_false_iff_not, li_0, li_1, li_2, li_3, li_4, li_5, li_6, li_7, li_8, li_9, li_10, li_20, li_40, li_99, li_100, li_255, li_899, li_999, li_m1, li_m2, li_m3, li_m4, li_m11, li_m12, li_m13, li_m14, li_m100] at h4 htf h16 h29 h39 ⊢) <;> omega)) | fail)
                  all_goals (first | rfl | (exfalso; ((try simp only [inB_t, inB_f, i_lt, i_le, i_eq, ne_eq, Bool.not_eq_true, Bool.not_eq_false, hpB, decide_eq_true_eq, decide_eq_false_iff_not, li_0, li_1, li_2, li_3, li_4, li_5, li_6, li_7, li_8, li_9, li_10, li_20, li_40, li_99, li_100, li_255, li_899, li_999, li_m1, li_m2, li_m3, li_m4, li_m11, li_m12, li_m13, li_m14, li_m100] at h4 htf h16 h29 h39 ⊢) <;> omega)))) h hg)
        · refine x_iload_n (pc := 32) C 0 dX12_newest_32 rfl ?_
          refine x_iconst (pc := 33) (v := (-1)) C dX12_newest_33 rfl ?_
          refine x_icmp_ne_t (pc := 34) C 49 dX12_newest_34 (by decide) (fun h => absurd (nI_toInt (n := d) (by omega)) (by rw [h]; simp)) ?_
          refine x_iload_n (pc := 49) C 3 dX12_newest_49 rfl ?_
          refine x_iconst (pc := 50) (v := 1) C dX12_newest_50 rfl ?_
          refine x_icmp_ne (pc := 51) C 68 dX12_newest_51 (by decide) (fun h51 => ?_) (fun h51 => ?_)
          · refine x_aload_n (pc := 68) C 1 dX12_newest_68 rfl ?_
            refine g_M_stamps (pc := 69) C E q11_18 dX12_newest_69 ?_
            refine x_bipush (pc := 72) (v := (nI 8)) C dX12_newest_72 (by decide) ?_
            refine x_iload_n (pc := 74) C 0 dX12_newest_74 rfl ?_
            refine x_imul (pc := 75) C dX12_newest_75 ?_
            refine x_eq (show (nI 8) * (nI d) = nI (8 * d) from pk_mul _ _) ?_
            refine x_iload_n (pc := 76) C 2 dX12_newest_76 rfl ?_
            refine x_iadd (pc := 77) C dX12_newest_77 ?_
            refine x_eq (show (nI (8 * d)) + (nI f) = nI (8 * d + f) from nI_add _ _) ?_
            refine l_Rstamps (pc := 78) C E (by omega) dX12_newest_78 ?_
            refine x_eq (show M 7 (8 * d + f) = vT (sV (σ)) d f from (rr_st h (by omega) (by omega))) ?_
            exact x_iret (pc := 79) C X dX12_newest_79 (faq (by
                  refine (a_newest_s ?_ (by rw [hof]; exact ho)).trans ?_
                  · ((try simp only [inB_t, inB_f, i_lt, i_le, i_eq, ne_eq, Bool.not_eq_true, Bool.not_eq_false, hpB, decide_eq_true_eq, decide_eq_false_iff_not, li_0, li_1, li_2, li_3, li_4, li_5, li_6, li_7, li_8, li_9, li_10, li_20, li_40, li_99, li_100, li_255, li_899, li_999, li_m1, li_m2, li_m3, li_m4, li_m11, li_m12, li_m13, li_m14, li_m100] at h4 htf h16 h29 h51 ⊢) <;> omega)
                  (try simp only [hof])
                  repeat (first | with_reducible rfl | (refine (if_pos ?_).trans ?_; ((try simp only [inB_t, inB_f, i_lt, i_le, i_eq, ne_eq, Bool.not_eq_true, Bool.not_eq_false, hpB, decide_eq_true_eq, decide_eq_false_iff_not, li_0, li_1, li_2, li_3, li_4, li_5, li_6, li_7, li_8, li_9, li_10, li_20, li_40, li_99, li_100, li_255, li_899, li_999, li_m1, li_m2, li_m3, li_m4, li_m11, li_m12, li_m13, li_m14, li_m100] at h4 htf h16 h29 h51 ⊢) <;> omega)) | (refine (if_neg ?_).trans ?_; ((try simp only [inB_t, inB_f, i_lt, i_le, i_eq, ne_eq, Bool.not_eq_true, Bool.not_eq_false, hpB, decide_eq_true_eq, decide_eq_false_iff_not, li_0, li_1, li_2, li_3, li_4, li_5, li_6, li_7, li_8, li_9, li_10, li_20, li_40, li_99, li_100, li_255, li_899, li_999, li_m1, li_m2, li_m3, li_m4, li_m11, li_m12, li_m13, li_m14, li_m100] at h4 htf h16 h29 h51 ⊢) <;> omega)) | fail)
                  all_goals (first | rfl | (exfalso; ((try simp only [inB_t, inB_f, i_lt, i_le, i_eq, ne_eq, Bool.not_eq_true, Bool.not_eq_false, hpB, decide_eq_true_eq, decide_eq_false_iff_not, li_0, li_1, li_2, li_3, li_4, li_5, li_6, li_7, li_8, li_9, li_10, li_20, li_40, li_99, li_100, li_255, li_899, li_999, li_m1, li_m2, li_m3, li_m4, li_m11, li_m12, li_m13, li_m14, li_m100] at h4 htf h16 h29 h51 ⊢) <;> omega)))) h hg)
          · refine x_aload_n (pc := 54) C 1 dX12_newest_54 rfl ?_
            refine g_M_contents (pc := 55) C E q11_17 dX12_newest_55 ?_
            refine x_bipush (pc := 58) (v := (nI 8)) C dX12_newest_58 (by decide) ?_
            refine x_iload_n (pc := 60) C 0 dX12_newest_60 rfl ?_
            refine x_imul (pc := 61) C dX12_newest_61 ?_
            refine x_eq (show (nI 8) * (nI d) = nI (8 * d) from pk_mul _ _) ?_
            refine x_iload_n (pc := 62) C 2 dX12_newest_62 rfl ?_
            refine x_iadd (pc := 63) C dX12_newest_63 ?_
            refine x_eq (show (nI (8 * d)) + (nI f) = nI (8 * d + f) from nI_add _ _) ?_
            refine l_Rcontents (pc := 64) C E (by omega) dX12_newest_64 ?_
            refine x_eq (show M 6 (8 * d + f) = vC (sV (σ)) d f from (rr_ct h (by omega) (by omega))) ?_
            refine x_goto (pc := 65) C 79 dX12_newest_65 (by decide) ?_
            exact x_iret (pc := 79) C X dX12_newest_79 (faq (by
                  refine (a_newest_s ?_ (by rw [hof]; exact ho)).trans ?_
                  · ((try simp only [inB_t, inB_f, i_lt, i_le, i_eq, ne_eq, Bool.not_eq_true, Bool.not_eq_false, hpB, decide_eq_true_eq, decide_eq_false_iff_not, li_0, li_1, li_2, li_3, li_4, li_5, li_6, li_7, li_8, li_9, li_10, li_20, li_40, li_99, li_100, li_255, li_899, li_999, li_m1, li_m2, li_m3, li_m4, li_m11, li_m12, li_m13, li_m14, li_m100] at h4 htf h16 h29 h51 ⊢) <;> omega)
                  (try simp only [hof])
                  repeat (first | with_reducible rfl | (refine (if_pos ?_).trans ?_; ((try simp only [inB_t, inB_f, i_lt, i_le, i_eq, ne_eq, Bool.not_eq_true, Bool.not_eq_false, hpB, decide_eq_true_eq, decide_eq_false_iff_not, li_0, li_1, li_2, li_3, li_4, li_5, li_6, li_7, li_8, li_9, li_10, li_20, li_40, li_99, li_100, li_255, li_899, li_999, li_m1, li_m2, li_m3, li_m4, li_m11, li_m12, li_m13, li_m14, li_m100] at h4 htf h16 h29 h51 ⊢) <;> omega)) | (refine (if_neg ?_).trans ?_; ((try simp only [inB_t, inB_f, i_lt, i_le, i_eq, ne_eq, Bool.not_eq_true, Bool.not_eq_false, hpB, decide_eq_true_eq, decide_eq_false_iff_not, li_0, li_1, li_2, li_3, li_4, li_5, li_6, li_7, li_8, li_9, li_10, li_20, li_40, li_99, li_100, li_255, li_899, li_999, li_m1, li_m2, li_m3, li_m4, li_m11, li_m12, li_m13, li_m14, li_m100] at h4 htf h16 h29 h51 ⊢) <;> omega)) | fail)
                  all_goals (first | rfl | (exfalso; ((try simp only [inB_t, inB_f, i_lt, i_le, i_eq, ne_eq, Bool.not_eq_true, Bool.not_eq_false, hpB, decide_eq_true_eq, decide_eq_false_iff_not, li_0, li_1, li_2, li_3, li_4, li_5, li_6, li_7, li_8, li_9, li_10, li_20, li_40, li_99, li_100, li_255, li_899, li_999, li_m1, li_m2, li_m3, li_m4, li_m11, li_m12, li_m13, li_m14, li_m100] at h4 htf h16 h29 h51 ⊢) <;> omega)))) h hg)
    · refine x_bipush (pc := 19) (v := (-2)) C dX12_newest_19 rfl ?_
      exact x_iret (pc := 21) C X dX12_newest_21 (faq (by
            unfold a_newest
            simp only [hof]
            repeat (first | with_reducible rfl | (refine (if_pos ?_).trans ?_; ((try simp only [inB_t, inB_f, i_lt, i_le, i_eq, ne_eq, Bool.not_eq_true, Bool.not_eq_false, hpB, decide_eq_true_eq, decide_eq_false_iff_not, li_0, li_1, li_2, li_3, li_4, li_5, li_6, li_7, li_8, li_9, li_10, li_20, li_40, li_99, li_100, li_255, li_899, li_999, li_m1, li_m2, li_m3, li_m4, li_m11, li_m12, li_m13, li_m14, li_m100] at h4 htf h16 ⊢) <;> omega)) | (refine (if_neg ?_).trans ?_; ((try simp only [inB_t, inB_f, i_lt, i_le, i_eq, ne_eq, Bool.not_eq_true, Bool.not_eq_false, hpB, decide_eq_true_eq, decide_eq_false_iff_not, li_0, li_1, li_2, li_3, li_4, li_5, li_6, li_7, li_8, li_9, li_10, li_20, li_40, li_99, li_100, li_255, li_899, li_999, li_m1, li_m2, li_m3, li_m4, li_m11, li_m12, li_m13, li_m14, li_m100] at h4 htf h16 ⊢) <;> omega)) | fail)
            all_goals (first | with_reducible rfl | (exfalso; ((try simp only [inB_t, inB_f, i_lt, i_le, i_eq, ne_eq, Bool.not_eq_true, Bool.not_eq_false, hpB, decide_eq_true_eq, decide_eq_false_iff_not, li_0, li_1, li_2, li_3, li_4, li_5, li_6, li_7, li_8, li_9, li_10, li_20, li_40, li_99, li_100, li_255, li_899, li_999, li_m1, li_m2, li_m3, li_m4, li_m11, li_m12, li_m13, li_m14, li_m100] at h4 htf h16 ⊢) <;> omega)))) h hg)

set_option maxRecDepth 100000 in
set_option maxHeartbeats 800000 in
theorem c_X12_all (t : CT) {σ : SV} {M : MM} (h : RR σ M) (hg : M 0 28 = 0) (x1 : Int32)  : XMet (wR t) yX12_all cX12_all 2 (some .int) 65 [.ref (t.1 0), .int x1] M (oQ (σ, a_all σ x1)) := by
  refine x_met RX12 (by decide) rfl (Nat.le_of_ble_eq_true rfl) (fun κ C X E => ?_)
  refine x_L (L' := [(0, .ref (t.1 0)), (1, .int x1)]) rfl ?_
  have hn6 := rr_n6 h
  have hN6 := h.1.1
  have hq := rr_q h
  have hB := h.1.2.1
  refine x_iload_n (pc := 0) C 1 dX12_all_0 rfl ?_
  refine x_i2l (pc := 1) C dX12_all_1 ?_
  refine x_lconst (pc := 2) (v := 0) C dX12_all_2 rfl ?_
  refine x_ldc2 (pc := 3) (v := 8) C q13_18 dX12_all_3 ?_
  refine x_callS (pc := 6) C E [.long (Int32.toInt64 x1), .long 0, .long 8] [] (c_X12_inB t _ x1 (n := 9) (by decide) (by decide)) m_X12_in q13_6 rfl (by decide) (Nat.le_of_ble_eq_true rfl) dX12_all_6 rfl (k_I ?_)
  refine x_ifb_ne (pc := 9) C 15 dX12_all_9 (by decide) (fun h9 => ?_) (fun h9 => ?_)
  · refine x_iload_n (pc := 15) C 1 dX12_all_15 rfl ?_
    refine x_if_ne (pc := 16) C 26 dX12_all_16 (by decide) (fun h16 => ?_) (fun h16 => ?_)
    · refine x_iload_n (pc := 26) C 1 dX12_all_26 rfl ?_
      refine x_bipush (pc := 27) (v := 7) C dX12_all_27 rfl ?_
      refine x_icmp_ge (pc := 29) C 40 dX12_all_29 (by decide) (fun h29 => ?_) (fun h29 => ?_)
      · refine x_iload_n (pc := 40) C 1 dX12_all_40 rfl ?_
        refine x_bipush (pc := 41) (v := 7) C dX12_all_41 rfl ?_
        refine x_icmp_ne (pc := 43) C 53 dX12_all_43 (by decide) (fun h43 => ?_) (fun h43 => ?_)
        · refine x_aload_n (pc := 53) C 0 dX12_all_53 rfl ?_
          refine x_callV (pc := 54) C E [] [] (c_X12_worthAll t h (gn := 0) hg) m_X12_worthAll q35_13 xo_M rfl (by first | decide | omega) (Nat.le_of_ble_eq_true rfl) dX12_all_54 rfl (fun r M54 hc54 => ?_)
          obtain ⟨rfl, hS54⟩ := hc54
          show XV κ (xP (wR t) M54) 57 _ [.int (sWs (σ) (woP (sV (σ)) 0) 8)]
          refine x_eq (wo_all hn6) ?_
          exact x_iret (pc := 57) C X dX12_all_57 (faq (by
                unfold a_all
                repeat (first | with_reducible rfl | (refine (if_pos ?_).trans ?_; ((try simp only [inB_t, inB_f, i_lt, i_le, i_eq, ne_eq, Bool.not_eq_true, Bool.not_eq_false, hpB, decide_eq_true_eq, decide_eq_false_iff_not, li_0, li_1, li_2, li_3, li_4, li_5, li_6, li_7, li_8, li_9, li_10, li_20, li_40, li_99, li_100, li_255, li_899, li_999, li_m1, li_m2, li_m3, li_m4, li_m11, li_m12, li_m13, li_m14, li_m100] at h9 h16 h29 h43 ⊢) <;> omega)) | (refine (if_neg ?_).trans ?_; ((try simp only [inB_t, inB_f, i_lt, i_le, i_eq, ne_eq, Bool.not_eq_true, Bool.not_eq_false, hpB, decide_eq_true_eq, decide_eq_false_iff_not, li_0, li_1, li_2, li_3, li_4, li_5, li_6, li_7, li_8, li_9, li_10, li_20, li_40, li_99, li_100, li_255, li_899, li_999, li_m1, li_m2, li_m3, li_m4, li_m11, li_m12, li_m13, li_m14, li_m100] at h9 h16 h29 h43 ⊢) <;> omega)) | fail)
                all_goals (first | with_reducible rfl | (exfalso; ((try simp only [inB_t, inB_f, i_lt, i_le, i_eq, ne_eq, Bool.not_eq_true, Bool.not_eq_false, hpB, decide_eq_true_eq, decide_eq_false_iff_not, li_0, li_1, li_2, li_3, li_4, li_5, li_6, li_7, li_8, li_9, li_10, li_20, li_40, li_99, li_100, li_255, li_899, li_999, li_m1, li_m2, li_m3, li_m4, li_m11, li_m12, li_m13, li_m14, li_m100] at h9 h16 h29 h43 ⊢) <;> omega)))) (rr_Sc h hS54) ((hS54 _ _ (by omega)).trans hg))
        · refine x_aload_n (pc := 46) C 0 dX12_all_46 rfl ?_
          refine x_callV (pc := 47) C E [] [] (c_X12_lostAll t h hg ) m_X12_lostAll q35_9 xo_M rfl (by first | decide | omega) (Nat.le_of_ble_eq_true rfl) dX12_all_47 rfl (k_I ?_)
          refine x_goto (pc := 50) C 57 dX12_all_50 (by decide) ?_
          exact x_iret (pc := 57) C X dX12_all_57 (faq (by
                unfold a_all
                repeat (first | with_reducible rfl | (refine (if_pos ?_).trans ?_; ((try simp only [inB_t, inB_f, i_lt, i_le, i_eq, ne_eq, Bool.not_eq_true, Bool.not_eq_false, hpB, decide_eq_true_eq, decide_eq_false_iff_not, li_0, li_1, li_2, li_3, li_4, li_5, li_6, li_7, li_8, li_9, li_10, li_20, li_40, li_99, li_100, li_255, li_899, li_999, li_m1, li_m2, li_m3, li_m4, li_m11, li_m12, li_m13, li_m14, li_m100] at h9 h16 h29 h43 ⊢) <;> omega)) | (refine (if_neg ?_).trans ?_; ((try simp only [inB_t, inB_f, i_lt, i_le, i_eq, ne_eq, Bool.not_eq_true, Bool.not_eq_false, hpB, decide_eq_true_eq, decide_eq_false_iff_not, li_0, li_1, li_2, li_3, li_4, li_5, li_6, li_7, li_8, li_9, li_10, li_20, li_40, li_99, li_100, li_255, li_899, li_999, li_m1, li_m2, li_m3, li_m4, li_m11, li_m12, li_m13, li_m14, li_m100] at h9 h16 h29 h43 ⊢) <;> omega)) | fail)
                all_goals (first | with_reducible rfl | (exfalso; ((try simp only [inB_t, inB_f, i_lt, i_le, i_eq, ne_eq, Bool.not_eq_true, Bool.not_eq_false, hpB, decide_eq_true_eq, decide_eq_false_iff_not, li_0, li_1, li_2, li_3, li_4, li_5, li_6, li_7, li_8, li_9, li_10, li_20, li_40, li_99, li_100, li_255, li_899, li_999, li_m1, li_m2, li_m3, li_m4, li_m11, li_m12, li_m13, li_m14, li_m100] at h9 h16 h29 h43 ⊢) <;> omega)))) h hg)
      · refine x_aload_n (pc := 32) C 0 dX12_all_32 rfl ?_
        refine x_iload_n (pc := 33) C 1 dX12_all_33 rfl ?_
        refine x_callV (pc := 34) C E [.int x1] [] (c_X12_safe t h (gn := 0) hg x1) m_X12_safe q35_2 xo_M rfl (by first | decide | omega) (Nat.le_of_ble_eq_true rfl) dX12_all_34 rfl (k_I ?_)
        refine x_eq (show _ = vSafe (sV (σ)) x1 from vSafeG_0 _ _) ?_
        refine x_goto (pc := 37) C 57 dX12_all_37 (by decide) ?_
        exact x_iret (pc := 57) C X dX12_all_57 (faq (by
              unfold a_all
              repeat (first | with_reducible rfl | (refine (if_pos ?_).trans ?_; ((try simp only [inB_t, inB_f, i_lt, i_le, i_eq, ne_eq, Bool.not_eq_true, Bool.not_eq_false, hpB, decide_eq_true_eq, decide_eq_false_iff_not, li_0, li_1, li_2, li_3, li_4, li_5, li_6, li_7, li_8, li_9, li_10, li_20, li_40, li_99, li_100, li_255, li_899, li_999, li_m1, li_m2, li_m3, li_m4, li_m11, li_m12, li_m13, li_m14, li_m100] at h9 h16 h29 ⊢) <;> omega)) | (refine (if_neg ?_).trans ?_; ((try simp only [inB_t, inB_f, i_lt, i_le, i_eq, ne_eq, Bool.not_eq_true, Bool.not_eq_false, hpB, decide_eq_true_eq, decide_eq_false_iff_not, li_0, li_1, li_2, li_3, li_4, li_5, li_6, li_7, li_8, li_9, li_10, li_20, li_40, li_99, li_100, li_255, li_899, li_999, li_m1, li_m2, li_m3, li_m4, li_m11, li_m12, li_m13, li_m14, li_m100] at h9 h16 h29 ⊢) <;> omega)) | fail)
              all_goals (first | with_reducible rfl | (exfalso; ((try simp only [inB_t, inB_f, i_lt, i_le, i_eq, ne_eq, Bool.not_eq_true, Bool.not_eq_false, hpB, decide_eq_true_eq, decide_eq_false_iff_not, li_0, li_1, li_2, li_3, li_4, li_5, li_6, li_7, li_8, li_9, li_10, li_20, li_40, li_99, li_100, li_255, li_899, li_999, li_m1, li_m2, li_m3, li_m4, li_m11, li_m12, li_m13, li_m14, li_m100] at h9 h16 h29 ⊢) <;> omega)))) h hg)
    · refine x_aload_n (pc := 19) C 0 dX12_all_19 rfl ?_
      refine x_callV (pc := 20) C E [] [] (c_X12_differ t h hg ) m_X12_differ q34_18 xo_M rfl (by first | decide | omega) (Nat.le_of_ble_eq_true rfl) dX12_all_20 rfl (k_I ?_)
      refine x_goto (pc := 23) C 57 dX12_all_23 (by decide) ?_
      exact x_iret (pc := 57) C X dX12_all_57 (faq (by
            unfold a_all
            repeat (first | with_reducible rfl | (refine (if_pos ?_).trans ?_; ((try simp only [inB_t, inB_f, i_lt, i_le, i_eq, ne_eq, Bool.not_eq_true, Bool.not_eq_false, hpB, decide_eq_true_eq, decide_eq_false_iff_not, li_0, li_1, li_2, li_3, li_4, li_5, li_6, li_7, li_8, li_9, li_10, li_20, li_40, li_99, li_100, li_255, li_899, li_999, li_m1, li_m2, li_m3, li_m4, li_m11, li_m12, li_m13, li_m14, li_m100] at h9 h16 ⊢) <;> omega)) | (refine (if_neg ?_).trans ?_; ((try simp only [inB_t, inB_f, i_lt, i_le, i_eq, ne_eq, Bool.not_eq_true, Bool.not_eq_false, hpB, decide_eq_true_eq, decide_eq_false_iff_not, li_0, li_1, li_2, li_3, li_4, li_5, li_6, li_7, li_8, li_9, li_10, li_20, li_40, li_99, li_100, li_255, li_899, li_999, li_m1, li_m2, li_m3, li_m4, li_m11, li_m12, li_m13, li_m14, li_m100] at h9 h16 ⊢) <;> omega)) | fail)
            all_goals (first | with_reducible rfl | (exfalso; ((try simp only [inB_t, inB_f, i_lt, i_le, i_eq, ne_eq, Bool.not_eq_true, Bool.not_eq_false, hpB, decide_eq_true_eq, decide_eq_false_iff_not, li_0, li_1, li_2, li_3, li_4, li_5, li_6, li_7, li_8, li_9, li_10, li_20, li_40, li_99, li_100, li_255, li_899, li_999, li_m1, li_m2, li_m3, li_m4, li_m11, li_m12, li_m13, li_m14, li_m100] at h9 h16 ⊢) <;> omega)))) h hg)
  · refine x_bipush (pc := 12) (v := (-2)) C dX12_all_12 rfl ?_
    exact x_iret (pc := 14) C X dX12_all_14 (faq (by
          unfold a_all
          repeat (first | with_reducible rfl | (refine (if_pos ?_).trans ?_; ((try simp only [inB_t, inB_f, i_lt, i_le, i_eq, ne_eq, Bool.not_eq_true, Bool.not_eq_false, hpB, decide_eq_true_eq, decide_eq_false_iff_not, li_0, li_1, li_2, li_3, li_4, li_5, li_6, li_7, li_8, li_9, li_10, li_20, li_40, li_99, li_100, li_255, li_899, li_999, li_m1, li_m2, li_m3, li_m4, li_m11, li_m12, li_m13, li_m14, li_m100] at h9 ⊢) <;> omega)) | (refine (if_neg ?_).trans ?_; ((try simp only [inB_t, inB_f, i_lt, i_le, i_eq, ne_eq, Bool.not_eq_true, Bool.not_eq_false, hpB, decide_eq_true_eq, decide_eq_false_iff_not, li_0, li_1, li_2, li_3, li_4, li_5, li_6, li_7, li_8, li_9, li_10, li_20, li_40, li_99, li_100, li_255, li_899, li_999, li_m1, li_m2, li_m3, li_m4, li_m11, li_m12, li_m13, li_m14, li_m100] at h9 ⊢) <;> omega)) | fail)
          all_goals (first | with_reducible rfl | (exfalso; ((try simp only [inB_t, inB_f, i_lt, i_le, i_eq, ne_eq, Bool.not_eq_true, Bool.not_eq_false, hpB, decide_eq_true_eq, decide_eq_false_iff_not, li_0, li_1, li_2, li_3, li_4, li_5, li_6, li_7, li_8, li_9, li_10, li_20, li_40, li_99, li_100, li_255, li_899, li_999, li_m1, li_m2, li_m3, li_m4, li_m11, li_m12, li_m13, li_m14, li_m100] at h9 ⊢) <;> omega)))) h hg)

set_option maxRecDepth 100000 in
set_option maxHeartbeats 800000 in
theorem c_X12_count (t : CT) {σ : SV} {M : MM} (h : RR σ M) (hg : M 0 28 = 0) (x1 : Int32)  : XMet (wR t) yX12_count cX12_count 4 (some .int) 3 [.ref (t.1 0), .int x1] M (oQ (σ, a_count σ x1)) := by
  refine x_met RX12 (by decide) rfl (Nat.le_of_ble_eq_true rfl) (fun κ C X E => ?_)
  refine x_L (L' := [(0, .ref (t.1 0)), (1, .int x1)]) rfl ?_
  have hn6 := rr_n6 h
  have hN6 := h.1.1
  have hq := rr_q h
  have hB := h.1.2.1
  refine x_iload_n (pc := 0) C 1 dX12_count_0 rfl ?_
  refine x_i2l (pc := 1) C dX12_count_1 ?_
  refine x_lconst (pc := 2) (v := 0) C dX12_count_2 rfl ?_
  refine x_ldc2 (pc := 3) (v := 5) C q19_20 dX12_count_3 ?_
  refine x_callS (pc := 6) C E [.long (Int32.toInt64 x1), .long 0, .long 5] [] (c_X12_inB t _ x1 (n := 6) (by decide) (by decide)) m_X12_in q13_6 rfl (by decide) (Nat.le_of_ble_eq_true rfl) dX12_count_6 rfl (k_I ?_)
  refine x_ifb_ne (pc := 9) C 15 dX12_count_9 (by decide) (fun h9 => ?_) (fun h9 => ?_)
  · refine x_iload_n (pc := 15) C 1 dX12_count_15 rfl ?_
    refine x_iconst (pc := 16) (v := 2) C dX12_count_16 rfl ?_
    refine x_icmp_le (pc := 17) C 49 dX12_count_17 (by decide) (fun h17 => ?_) (fun h17 => ?_)
    · have hk9 : x1.toInt = 0 ∨ x1.toInt = 1 ∨ x1.toInt = 2 := (by ((try simp only [inB_t, inB_f, i_lt, i_le, i_eq, ne_eq, Bool.not_eq_true, Bool.not_eq_false, hpB, decide_eq_true_eq, decide_eq_false_iff_not, li_0, li_1, li_2, li_3, li_4, li_5, li_6, li_7, li_8, li_9, li_10, li_20, li_40, li_99, li_100, li_255, li_899, li_999, li_m1, li_m2, li_m3, li_m4, li_m11, li_m12, li_m13, li_m14, li_m100] at h9 h17 ⊢) <;> omega))
      rcases hk9 with hk9 | hk9 | hk9
      · obtain rfl : x1 = 0 := i_eq.mpr hk9
        refine x_iconst (pc := 49) (v := 0) C dX12_count_49 rfl ?_
        refine x_istore_n (pc := 50) (L' := [(2, .int 0), (0, .ref (t.1 0)), (1, .int 0)]) C dX12_count_50 (by decide) rfl ?_
        refine x_iconst (pc := 51) (v := 0) C dX12_count_51 rfl ?_
        refine x_istore_n (pc := 52) (L' := [(3, .int 0), (2, .int 0), (0, .ref (t.1 0)), (1, .int 0)]) C dX12_count_52 (by decide) rfl ?_
        have loop53 : ∀ (k d : Nat) (x : Int32) (y : Int32) , d + k = vN (sV σ) → x = nI d → y = nI d → XV κ (xP (wR t) M) 53 [(3, .int y), (2, .int x), (0, .ref (t.1 0)), (1, .int 0)] [] := by
          intro k
          induction k with
            | zero =>
              intro d x y  hcnt ex ey
              subst ex
              subst ey
              obtain rfl : vN (sV σ) = d := by omega
              refine x_iload_n (pc := 53) C 0 dX12_count_53 rfl ?_
              refine x_aload_n (pc := 54) C 2 dX12_count_54 rfl ?_
              refine g_M_many (pc := 55) C E q13_13 dX12_count_55 ?_
              refine x_eq (show M 0 12 = nI (vN (sV (σ))) from (rr_size h)) ?_
              refine x_icmp_ge_t (pc := 58) C 104 dX12_count_58 (by decide) (nI_le (by omega) (by omega)) ?_
              refine x_iload_n (pc := 104) C 1 dX12_count_104 rfl ?_
              exact x_iret (pc := 105) C X dX12_count_105 (faq rfl h hg)
            | succ k ih =>
              intro d x y  hcnt ex ey
              subst ex
              subst ey
              have hi53 : d < vN (sV σ) := by omega
              refine x_iload_n (pc := 53) C 0 dX12_count_53 rfl ?_
              refine x_aload_n (pc := 54) C 2 dX12_count_54 rfl ?_
              refine g_M_many (pc := 55) C E q13_13 dX12_count_55 ?_
              refine x_eq (show M 0 12 = nI (vN (sV (σ))) from (rr_size h)) ?_
              refine x_icmp_ge_f (pc := 58) C 104 dX12_count_58 (by decide) (nI_ge (by omega) (by omega)) ?_
              refine x_iload_n (pc := 61) C 1 dX12_count_61 rfl ?_
              refine x_iload_n (pc := 62) C 3 dX12_count_62 rfl ?_
              refine x_if_ne_f (pc := 63) C 70 dX12_count_63 (by decide) (by decide) ?_
              refine x_iconst (pc := 66) (v := 1) C dX12_count_66 rfl ?_
              refine x_goto (pc := 67) C 96 dX12_count_67 (by decide) ?_
              refine x_iadd (pc := 96) C dX12_count_96 ?_
              refine x_istore_n (pc := 97) (L' := [(2, .int ((nI d) + 1)), (3, .int (nI d)), (0, .ref (t.1 0)), (1, .int 0)]) C dX12_count_97 (by decide) rfl ?_
              refine x_iinc (pc := 98) (v := nI (d + 1)) (L' := [(3, .int (nI (d + 1))), (2, .int ((nI d) + 1)), (0, .ref (t.1 0)), (1, .int 0)]) C 1 dX12_count_98 rfl (nI_1 _) (by decide) rfl ?_
              refine x_goto (pc := 101) C 53 dX12_count_101 (by decide) ?_
              refine x_sub [0, 1, 2, 3] rfl ?_
              exact ih (d + 1) _ _ (by omega) (nI_1 _) rfl
        refine x_sub [0, 1, 2, 3] rfl ?_
        exact loop53 (vN (sV σ)) 0 _ _ (by omega) rfl rfl
      · obtain rfl : x1 = 1 := i_eq.mpr hk9
        refine x_iconst (pc := 49) (v := 0) C dX12_count_49 rfl ?_
        refine x_istore_n (pc := 50) (L' := [(2, .int 0), (0, .ref (t.1 0)), (1, .int 1)]) C dX12_count_50 (by decide) rfl ?_
        refine x_iconst (pc := 51) (v := 0) C dX12_count_51 rfl ?_
        refine x_istore_n (pc := 52) (L' := [(3, .int 0), (2, .int 0), (0, .ref (t.1 0)), (1, .int 1)]) C dX12_count_52 (by decide) rfl ?_
        have loop53 : ∀ (k d : Nat) (x : Int32) (y : Int32) , d + k = vN (sV σ) → x = nI (cnt (vRd (sV σ)) d) → y = nI d → XV κ (xP (wR t) M) 53 [(3, .int y), (2, .int x), (0, .ref (t.1 0)), (1, .int 1)] [] := by
          intro k
          induction k with
            | zero =>
              intro d x y  hcnt ex ey
              subst ex
              subst ey
              obtain rfl : vN (sV σ) = d := by omega
              refine x_iload_n (pc := 53) C 0 dX12_count_53 rfl ?_
              refine x_aload_n (pc := 54) C 2 dX12_count_54 rfl ?_
              refine g_M_many (pc := 55) C E q13_13 dX12_count_55 ?_
              refine x_eq (show M 0 12 = nI (vN (sV (σ))) from (rr_size h)) ?_
              refine x_icmp_ge_t (pc := 58) C 104 dX12_count_58 (by decide) (nI_le (by omega) (by omega)) ?_
              refine x_iload_n (pc := 104) C 1 dX12_count_104 rfl ?_
              exact x_iret (pc := 105) C X dX12_count_105 (faq rfl h hg)
            | succ k ih =>
              intro d x y  hcnt ex ey
              subst ex
              subst ey
              have hi53 : d < vN (sV σ) := by omega
              refine x_iload_n (pc := 53) C 0 dX12_count_53 rfl ?_
              refine x_aload_n (pc := 54) C 2 dX12_count_54 rfl ?_
              refine g_M_many (pc := 55) C E q13_13 dX12_count_55 ?_
              refine x_eq (show M 0 12 = nI (vN (sV (σ))) from (rr_size h)) ?_
              refine x_icmp_ge_f (pc := 58) C 104 dX12_count_58 (by decide) (nI_ge (by omega) (by omega)) ?_
              refine x_iload_n (pc := 61) C 1 dX12_count_61 rfl ?_
              refine x_iload_n (pc := 62) C 3 dX12_count_62 rfl ?_
              refine x_if_ne_t (pc := 63) C 70 dX12_count_63 (by decide) (by decide) ?_
              refine x_iload_n (pc := 70) C 3 dX12_count_70 rfl ?_
              refine x_iconst (pc := 71) (v := 1) C dX12_count_71 rfl ?_
              refine x_icmp_ne_f (pc := 72) C 91 dX12_count_72 (by decide) (by decide) ?_
              refine x_aload_n (pc := 75) C 2 dX12_count_75 rfl ?_
              refine x_iload_n (pc := 76) C 0 dX12_count_76 rfl ?_
              refine x_callV (pc := 77) C E [.int (nI d)] [.int (nI (cnt (vRd (sV σ)) d))] ( c_X12_reads t h (d := d) (by omega)) m_X12_reads q13_20 xo_M rfl (by decide) (Nat.le_of_ble_eq_true rfl) dX12_count_77 rfl (k_I ?_)
              refine x_ifb_eq (pc := 80) C 87 dX12_count_80 (by decide) (fun h80 => ?_) (fun h80 => ?_)
              · refine x_iconst (pc := 87) (v := 0) C dX12_count_87 rfl ?_
                refine x_goto (pc := 88) C 96 dX12_count_88 (by decide) ?_
                refine x_iadd (pc := 96) C dX12_count_96 ?_
                refine x_istore_n (pc := 97) (L' := [(2, .int ((nI (cnt (vRd (sV σ)) d)) + 0)), (3, .int (nI d)), (0, .ref (t.1 0)), (1, .int 1)]) C dX12_count_97 (by decide) rfl ?_
                refine x_iinc (pc := 98) (v := nI (d + 1)) (L' := [(3, .int (nI (d + 1))), (2, .int ((nI (cnt (vRd (sV σ)) d)) + 0)), (0, .ref (t.1 0)), (1, .int 1)]) C 1 dX12_count_98 rfl (nI_1 _) (by decide) rfl ?_
                refine x_goto (pc := 101) C 53 dX12_count_101 (by decide) ?_
                refine x_sub [0, 1, 2, 3] rfl ?_
                exact ih (d + 1) _ _ (by omega) (by rw [cnt_S, h80]; rw [if_neg (by decide)]; exact nI_add _ 0) rfl
              · refine x_iconst (pc := 83) (v := 1) C dX12_count_83 rfl ?_
                refine x_goto (pc := 84) C 96 dX12_count_84 (by decide) ?_
                refine x_iadd (pc := 96) C dX12_count_96 ?_
                refine x_istore_n (pc := 97) (L' := [(2, .int ((nI (cnt (vRd (sV σ)) d)) + 1)), (3, .int (nI d)), (0, .ref (t.1 0)), (1, .int 1)]) C dX12_count_97 (by decide) rfl ?_
                refine x_iinc (pc := 98) (v := nI (d + 1)) (L' := [(3, .int (nI (d + 1))), (2, .int ((nI (cnt (vRd (sV σ)) d)) + 1)), (0, .ref (t.1 0)), (1, .int 1)]) C 1 dX12_count_98 rfl (nI_1 _) (by decide) rfl ?_
                refine x_goto (pc := 101) C 53 dX12_count_101 (by decide) ?_
                refine x_sub [0, 1, 2, 3] rfl ?_
                exact ih (d + 1) _ _ (by omega) (by rw [cnt_S, h80]; rw [if_pos rfl]; exact nI_1 _) rfl
        refine x_sub [0, 1, 2, 3] rfl ?_
        exact loop53 (vN (sV σ)) 0 _ _ (by omega) rfl rfl
      · obtain rfl : x1 = 2 := i_eq.mpr hk9
        refine x_iconst (pc := 49) (v := 0) C dX12_count_49 rfl ?_
        refine x_istore_n (pc := 50) (L' := [(2, .int 0), (0, .ref (t.1 0)), (1, .int 2)]) C dX12_count_50 (by decide) rfl ?_
        refine x_iconst (pc := 51) (v := 0) C dX12_count_51 rfl ?_
        refine x_istore_n (pc := 52) (L' := [(3, .int 0), (2, .int 0), (0, .ref (t.1 0)), (1, .int 2)]) C dX12_count_52 (by decide) rfl ?_
        have loop53 : ∀ (k d : Nat) (x : Int32) (y : Int32) , d + k = vN (sV σ) → x = nI (vCc (sV σ) d) → y = nI d → XV κ (xP (wR t) M) 53 [(3, .int y), (2, .int x), (0, .ref (t.1 0)), (1, .int 2)] [] := by
          intro k
          induction k with
            | zero =>
              intro d x y  hcnt ex ey
              subst ex
              subst ey
              obtain rfl : vN (sV σ) = d := by omega
              refine x_iload_n (pc := 53) C 0 dX12_count_53 rfl ?_
              refine x_aload_n (pc := 54) C 2 dX12_count_54 rfl ?_
              refine g_M_many (pc := 55) C E q13_13 dX12_count_55 ?_
              refine x_eq (show M 0 12 = nI (vN (sV (σ))) from (rr_size h)) ?_
              refine x_icmp_ge_t (pc := 58) C 104 dX12_count_58 (by decide) (nI_le (by omega) (by omega)) ?_
              refine x_iload_n (pc := 104) C 1 dX12_count_104 rfl ?_
              exact x_iret (pc := 105) C X dX12_count_105 (faq rfl h hg)
            | succ k ih =>
              intro d x y  hcnt ex ey
              subst ex
              subst ey
              have hi53 : d < vN (sV σ) := by omega
              refine x_iload_n (pc := 53) C 0 dX12_count_53 rfl ?_
              refine x_aload_n (pc := 54) C 2 dX12_count_54 rfl ?_
              refine g_M_many (pc := 55) C E q13_13 dX12_count_55 ?_
              refine x_eq (show M 0 12 = nI (vN (sV (σ))) from (rr_size h)) ?_
              refine x_icmp_ge_f (pc := 58) C 104 dX12_count_58 (by decide) (nI_ge (by omega) (by omega)) ?_
              refine x_iload_n (pc := 61) C 1 dX12_count_61 rfl ?_
              refine x_iload_n (pc := 62) C 3 dX12_count_62 rfl ?_
              refine x_if_ne_t (pc := 63) C 70 dX12_count_63 (by decide) (by decide) ?_
              refine x_iload_n (pc := 70) C 3 dX12_count_70 rfl ?_
              refine x_iconst (pc := 71) (v := 1) C dX12_count_71 rfl ?_
              refine x_icmp_ne_t (pc := 72) C 91 dX12_count_72 (by decide) (by decide) ?_
              refine x_aload_n (pc := 91) C 2 dX12_count_91 rfl ?_
              refine x_iload_n (pc := 92) C 0 dX12_count_92 rfl ?_
              refine x_callV (pc := 93) C E [.int (nI d)] [.int (nI (vCc (sV σ) d))] ( c_X12_hasOf t h (d := d) (by omega)) m_X12_hasOf q14_8 xo_M rfl (by decide) (Nat.le_of_ble_eq_true rfl) dX12_count_93 rfl (k_I ?_)
              refine x_iadd (pc := 96) C dX12_count_96 ?_
              refine x_eq (show (nI (vCc (sV σ) d)) + (nI (vCn (sV (σ)) d)) = nI (vCc (sV σ) d + (vCn (sV (σ)) d)) from nI_add _ _) ?_
              refine x_istore_n (pc := 97) (L' := [(2, .int (nI (vCc (sV σ) d + (vCn (sV (σ)) d)))), (3, .int (nI d)), (0, .ref (t.1 0)), (1, .int 2)]) C dX12_count_97 (by decide) rfl ?_
              refine x_iinc (pc := 98) (v := nI (d + 1)) (L' := [(3, .int (nI (d + 1))), (2, .int (nI (vCc (sV σ) d + (vCn (sV (σ)) d)))), (0, .ref (t.1 0)), (1, .int 2)]) C 1 dX12_count_98 rfl (nI_1 _) (by decide) rfl ?_
              refine x_goto (pc := 101) C 53 dX12_count_101 (by decide) ?_
              refine x_sub [0, 1, 2, 3] rfl ?_
              exact ih (d + 1) _ _ (by omega) (rfl) rfl
        refine x_sub [0, 1, 2, 3] rfl ?_
        exact loop53 (vN (sV σ)) 0 _ _ (by omega) rfl rfl
      
    · refine x_iload_n (pc := 20) C 1 dX12_count_20 rfl ?_
      refine x_iconst (pc := 21) (v := 3) C dX12_count_21 rfl ?_
      refine x_icmp_ne (pc := 22) C 32 dX12_count_22 (by decide) (fun h22 => ?_) (fun h22 => ?_)
      · refine x_iload_n (pc := 32) C 1 dX12_count_32 rfl ?_
        refine x_iconst (pc := 33) (v := 4) C dX12_count_33 rfl ?_
        refine x_icmp_ne (pc := 34) C 44 dX12_count_34 (by decide) (fun h34 => ?_) (fun h34 => ?_)
        · refine x_aload_n (pc := 44) C 0 dX12_count_44 rfl ?_
          refine g_M_rule (pc := 45) C E q15_2 dX12_count_45 ?_
          refine x_eq (show M 0 4 = nI (vR (sV (σ))) from (rr_rule h)) ?_
          exact x_iret (pc := 48) C X dX12_count_48 (faq (by
                unfold a_count
                repeat (first | with_reducible rfl | (refine (if_pos ?_).trans ?_; ((try simp only [inB_t, inB_f, i_lt, i_le, i_eq, ne_eq, Bool.not_eq_true, Bool.not_eq_false, hpB, decide_eq_true_eq, decide_eq_false_iff_not, li_0, li_1, li_2, li_3, li_4, li_5, li_6, li_7, li_8, li_9, li_10, li_20, li_40, li_99, li_100, li_255, li_899, li_999, li_m1, li_m2, li_m3, li_m4, li_m11, li_m12, li_m13, li_m14, li_m100] at h9 h17 h22 h34 ⊢) <;> omega)) | (refine (if_neg ?_).trans ?_; ((try simp only [inB_t, inB_f, i_lt, i_le, i_eq, ne_eq, Bool.not_eq_true, Bool.not_eq_false, hpB, decide_eq_true_eq, decide_eq_false_iff_not, li_0, li_1, li_2, li_3, li_4, li_5, li_6, li_7, li_8, li_9, li_10, li_20, li_40, li_99, li_100, li_255, li_899, li_999, li_m1, li_m2, li_m3, li_m4, li_m11, li_m12, li_m13, li_m14, li_m100] at h9 h17 h22 h34 ⊢) <;> omega)) | fail)
                all_goals (first | with_reducible rfl | (exfalso; ((try simp only [inB_t, inB_f, i_lt, i_le, i_eq, ne_eq, Bool.not_eq_true, Bool.not_eq_false, hpB, decide_eq_true_eq, decide_eq_false_iff_not, li_0, li_1, li_2, li_3, li_4, li_5, li_6, li_7, li_8, li_9, li_10, li_20, li_40, li_99, li_100, li_255, li_899, li_999, li_m1, li_m2, li_m3, li_m4, li_m11, li_m12, li_m13, li_m14, li_m100] at h9 h17 h22 h34 ⊢) <;> omega)))) h hg)
        · refine x_aload_n (pc := 37) C 0 dX12_count_37 rfl ?_
          refine g_M_taped (pc := 38) C E q26_12 dX12_count_38 ?_
          refine x_eq (show M 0 6 = nI (sB (σ)) from (rr_tb h)) ?_
          refine x_goto (pc := 41) C 48 dX12_count_41 (by decide) ?_
          exact x_iret (pc := 48) C X dX12_count_48 (faq (by
                unfold a_count
                repeat (first | with_reducible rfl | (refine (if_pos ?_).trans ?_; ((try simp only [inB_t, inB_f, i_lt, i_le, i_eq, ne_eq, Bool.not_eq_true, Bool.not_eq_false, hpB, decide_eq_true_eq, decide_eq_false_iff_not, li_0, li_1, li_2, li_3, li_4, li_5, li_6, li_7, li_8, li_9, li_10, li_20, li_40, li_99, li_100, li_255, li_899, li_999, li_m1, li_m2, li_m3, li_m4, li_m11, li_m12, li_m13, li_m14, li_m100] at h9 h17 h22 h34 ⊢) <;> omega)) | (refine (if_neg ?_).trans ?_; ((try simp only [inB_t, inB_f, i_lt, i_le, i_eq, ne_eq, Bool.not_eq_true, Bool.not_eq_false, hpB, decide_eq_true_eq, decide_eq_false_iff_not, li_0, li_1, li_2, li_3, li_4, li_5, li_6, li_7, li_8, li_9, li_10, li_20, li_40, li_99, li_100, li_255, li_899, li_999, li_m1, li_m2, li_m3, li_m4, li_m11, li_m12, li_m13, li_m14, li_m100] at h9 h17 h22 h34 ⊢) <;> omega)) | fail)
                all_goals (first | with_reducible rfl | (exfalso; ((try simp only [inB_t, inB_f, i_lt, i_le, i_eq, ne_eq, Bool.not_eq_true, Bool.not_eq_false, hpB, decide_eq_true_eq, decide_eq_false_iff_not, li_0, li_1, li_2, li_3, li_4, li_5, li_6, li_7, li_8, li_9, li_10, li_20, li_40, li_99, li_100, li_255, li_899, li_999, li_m1, li_m2, li_m3, li_m4, li_m11, li_m12, li_m13, li_m14, li_m100] at h9 h17 h22 h34 ⊢) <;> omega)))) h hg)
      · refine x_aload_n (pc := 25) C 0 dX12_count_25 rfl ?_
        refine g_M_textCount (pc := 26) C E q12_5 dX12_count_26 ?_
        refine x_eq (show M 0 3 = nI (sN (σ)) from (rr_tc h)) ?_
        refine x_goto (pc := 29) C 48 dX12_count_29 (by decide) ?_
        exact x_iret (pc := 48) C X dX12_count_48 (faq (by
              unfold a_count
              repeat (first | with_reducible rfl | (refine (if_pos ?_).trans ?_; ((try simp only [inB_t, inB_f, i_lt, i_le, i_eq, ne_eq, Bool.not_eq_true, Bool.not_eq_false, hpB, decide_eq_true_eq, decide_eq_false_iff_not, li_0, li_1, li_2, li_3, li_4, li_5, li_6, li_7, li_8, li_9, li_10, li_20, li_40, li_99, li_100, li_255, li_899, li_999, li_m1, li_m2, li_m3, li_m4, li_m11, li_m12, li_m13, li_m14, li_m100] at h9 h17 h22 ⊢) <;> omega)) | (refine (if_neg ?_).trans ?_; ((try simp only [inB_t, inB_f, i_lt, i_le, i_eq, ne_eq, Bool.not_eq_true, Bool.not_eq_false, hpB, decide_eq_true_eq, decide_eq_false_iff_not, li_0, li_1, li_2, li_3, li_4, li_5, li_6, li_7, li_8, li_9, li_10, li_20, li_40, li_99, li_100, li_255, li_899, li_999, li_m1, li_m2, li_m3, li_m4, li_m11, li_m12, li_m13, li_m14, li_m100] at h9 h17 h22 ⊢) <;> omega)) | fail)
              all_goals (first | with_reducible rfl | (exfalso; ((try simp only [inB_t, inB_f, i_lt, i_le, i_eq, ne_eq, Bool.not_eq_true, Bool.not_eq_false, hpB, decide_eq_true_eq, decide_eq_false_iff_not, li_0, li_1, li_2, li_3, li_4, li_5, li_6, li_7, li_8, li_9, li_10, li_20, li_40, li_99, li_100, li_255, li_899, li_999, li_m1, li_m2, li_m3, li_m4, li_m11, li_m12, li_m13, li_m14, li_m100] at h9 h17 h22 ⊢) <;> omega)))) h hg)
  · refine x_bipush (pc := 12) (v := (-2)) C dX12_count_12 rfl ?_
    exact x_iret (pc := 14) C X dX12_count_14 (faq (by
          unfold a_count
          repeat (first | with_reducible rfl | (refine (if_pos ?_).trans ?_; ((try simp only [inB_t, inB_f, i_lt, i_le, i_eq, ne_eq, Bool.not_eq_true, Bool.not_eq_false, hpB, decide_eq_true_eq, decide_eq_false_iff_not, li_0, li_1, li_2, li_3, li_4, li_5, li_6, li_7, li_8, li_9, li_10, li_20, li_40, li_99, li_100, li_255, li_899, li_999, li_m1, li_m2, li_m3, li_m4, li_m11, li_m12, li_m13, li_m14, li_m100] at h9 ⊢) <;> omega)) | (refine (if_neg ?_).trans ?_; ((try simp only [inB_t, inB_f, i_lt, i_le, i_eq, ne_eq, Bool.not_eq_true, Bool.not_eq_false, hpB, decide_eq_true_eq, decide_eq_false_iff_not, li_0, li_1, li_2, li_3, li_4, li_5, li_6, li_7, li_8, li_9, li_10, li_20, li_40, li_99, li_100, li_255, li_899, li_999, li_m1, li_m2, li_m3, li_m4, li_m11, li_m12, li_m13, li_m14, li_m100] at h9 ⊢) <;> omega)) | fail)
          all_goals (first | with_reducible rfl | (exfalso; ((try simp only [inB_t, inB_f, i_lt, i_le, i_eq, ne_eq, Bool.not_eq_true, Bool.not_eq_false, hpB, decide_eq_true_eq, decide_eq_false_iff_not, li_0, li_1, li_2, li_3, li_4, li_5, li_6, li_7, li_8, li_9, li_10, li_20, li_40, li_99, li_100, li_255, li_899, li_999, li_m1, li_m2, li_m3, li_m4, li_m11, li_m12, li_m13, li_m14, li_m100] at h9 ⊢) <;> omega)))) h hg)

theorem two_f {σ : SV} {x y : Int32} (h : inB x (vN (sV σ)) = false ∨ inB y (vN (sV σ)) = false ∨ x = y) : two σ x y = false := by
  unfold two
  rcases h with h | h | h
  · rw [h]; rfl
  · rw [h]; cases inB x (vN (sV σ)) <;> rfl
  · rw [decide_eq_true h]; exact Bool.and_false _
theorem two_t {σ : SV} (hn : vN (sV σ) ≤ 6) {a b : Nat} (ha : a < vN (sV σ)) (hb : b < vN (sV σ)) (hne : ¬ (nI a = nI b)) : two σ (nI a) (nI b) = true := by
  unfold two
  rw [inB_nI ha (by omega), inB_nI hb (by omega), decide_eq_false hne]
  rfl
theorem o_copies_ok {σ : SV} (hn : vN (sV σ) ≤ 6) {a b : Nat} (ha : a < vN (sV σ)) (hb : b < vN (sV σ)) (hne : ¬ (nI a = nI b)) : o_copies σ (nI a) (nI b) = if (vRd (sV σ) a && vRd (sV σ) b) = false then (σ, -3) else (setV σ (sCp σ (sV σ) a b).1, nI (sCp σ (sV σ) a b).2) := by
  unfold o_copies
  rw [two_t hn ha hb hne, if_neg (by decide), oN_nI (by omega), oN_nI (by omega)]
theorem rr_setc {σ : SV} {M : MM} (h : RR σ M) {d f : Nat} (hd : d < vN (sV σ)) (hf : f < 8) {c : Int32} (hc : -1 ≤ c.toInt) : RR (setV σ (vSet (sV σ) d f c (vT (sV σ) d f))) (mu M 6 (8 * d + f) c) := rr_frame (rr_set h hd hf hc) (fun a b _ => by
  rw [mu_at (mu M 6 (8 * d + f) c) 7]
  by_cases g : a = 7 ∧ b = 8 * d + f
  · obtain ⟨rfl, rfl⟩ := g
    rw [if_pos ⟨rfl, rfl⟩, mu_n _ _ _ _ (by decide)]; exact rr_st h hd hf
  · rw [if_neg g])
set_option maxRecDepth 100000 in
set_option maxHeartbeats 800000 in
theorem c_X12_copies (t : CT) {σ : SV} {M : MM} (h : RR σ M) (hg : M 0 28 = 0) (x1 x2 : Int32)  : XMet (wR t) yX12_copies cX12_copies 3 (some .int) 66 [.ref (t.1 0), .int x1, .int x2] M (oQ (o_copies σ x1 x2)) := by
  refine x_met RX12 (by decide) rfl (Nat.le_of_ble_eq_true rfl) (fun κ C X E => ?_)
  refine x_L (L' := [(0, .ref (t.1 0)), (1, .int x1), (2, .int x2)]) rfl ?_
  have hn6 := rr_n6 h
  have hN6 := h.1.1
  have hq := rr_q h
  have hB := h.1.2.1
  refine x_aload_n (pc := 0) C 0 dX12_copies_0 rfl ?_
  refine x_iload_n (pc := 1) C 1 dX12_copies_1 rfl ?_
  refine x_callV (pc := 2) C E [.int x1] [] ( c_X12_isDisk t h _) m_X12_isDisk q13_9 xo_M rfl (by decide) (Nat.le_of_ble_eq_true rfl) dX12_copies_2 rfl (k_I ?_)
  refine x_ifb_eq (pc := 5) C 21 dX12_copies_5 (by decide) (fun h5 => ?_) (fun h5 => ?_)
  · refine x_bipush (pc := 21) (v := (-2)) C dX12_copies_21 rfl ?_
    exact x_iret (pc := 23) C X dX12_copies_23 (foq (by unfold o_copies; exact if_pos (two_f (by ((try simp only [inB_t, inB_f, i_lt, i_le, i_eq, ne_eq, Bool.not_eq_true, Bool.not_eq_false, hpB, decide_eq_true_eq, decide_eq_false_iff_not, li_0, li_1, li_2, li_3, li_4, li_5, li_6, li_7, li_8, li_9, li_10, li_20, li_40, li_99, li_100, li_255, li_899, li_999, li_m1, li_m2, li_m3, li_m4, li_m11, li_m12, li_m13, li_m14, li_m100] at h5 ⊢) <;> omega)))) h hg)
  · obtain ⟨a, ha, ea⟩ := inB_of h5 (by omega)
    have hta := nI_toInt (n := a) (by omega)
    have hoa := oN_nI (n := a) (by omega)
    subst ea
    refine x_aload_n (pc := 8) C 0 dX12_copies_8 rfl ?_
    refine x_iload_n (pc := 9) C 2 dX12_copies_9 rfl ?_
    refine x_callV (pc := 10) C E [.int x2] [] ( c_X12_isDisk t h _) m_X12_isDisk q13_9 xo_M rfl (by decide) (Nat.le_of_ble_eq_true rfl) dX12_copies_10 rfl (k_I ?_)
    refine x_ifb_eq (pc := 13) C 21 dX12_copies_13 (by decide) (fun h13 => ?_) (fun h13 => ?_)
    · refine x_bipush (pc := 21) (v := (-2)) C dX12_copies_21 rfl ?_
      exact x_iret (pc := 23) C X dX12_copies_23 (foq (by unfold o_copies; exact if_pos (two_f (by ((try simp only [inB_t, inB_f, i_lt, i_le, i_eq, ne_eq, Bool.not_eq_true, Bool.not_eq_false, hpB, decide_eq_true_eq, decide_eq_false_iff_not, li_0, li_1, li_2, li_3, li_4, li_5, li_6, li_7, li_8, li_9, li_10, li_20, li_40, li_99, li_100, li_255, li_899, li_999, li_m1, li_m2, li_m3, li_m4, li_m11, li_m12, li_m13, li_m14, li_m100] at h5 hta h13 ⊢) <;> omega)))) h hg)
    · obtain ⟨b, hb, eb⟩ := inB_of h13 (by omega)
      have htb := nI_toInt (n := b) (by omega)
      have hob := oN_nI (n := b) (by omega)
      subst eb
      refine x_iload_n (pc := 16) C 1 dX12_copies_16 rfl ?_
      refine x_iload_n (pc := 17) C 2 dX12_copies_17 rfl ?_
      refine x_icmp_ne (pc := 18) C 24 dX12_copies_18 (by decide) (fun h18 => ?_) (fun h18 => ?_)
      · refine x_aload_n (pc := 24) C 0 dX12_copies_24 rfl ?_
        refine x_iload_n (pc := 25) C 1 dX12_copies_25 rfl ?_
        refine x_iload_n (pc := 26) C 2 dX12_copies_26 rfl ?_
        refine x_callV (pc := 27) C E [.int (nI a), .int (nI b)] [] ( c_X12_canCopy t h (a := a) (b := b) (by omega) (by omega)) m_X12_canCopy q30_20 xo_M rfl (by decide) (Nat.le_of_ble_eq_true rfl) dX12_copies_27 rfl (k_I ?_)
        refine x_ifb_eq (pc := 30) C 42 dX12_copies_30 (by decide) (fun h30 => ?_) (fun h30 => ?_)
        · have h31 : (vRd (sV σ) a && vRd (sV σ) b) = false := (by rw [decide_eq_false (fun e => h18 (by rw [e]))] at h30; exact h30)
          refine x_bipush (pc := 42) (v := (-3)) C dX12_copies_42 rfl ?_
          exact x_iret (pc := 44) C X dX12_copies_44 (foq ((o_copies_ok (σ := σ) hn6 ha hb h18).trans (if_pos h31)) h hg)
        · have h31 : (vRd (sV σ) a && vRd (sV σ) b) = true := (by rw [decide_eq_false (fun e => h18 (by rw [e]))] at h30; exact h30)
          refine x_aload_n (pc := 33) C 0 dX12_copies_33 rfl ?_
          refine x_iload_n (pc := 34) C 1 dX12_copies_34 rfl ?_
          refine x_iload_n (pc := 35) C 2 dX12_copies_35 rfl ?_
          refine x_callV (pc := 36) C E [.int (nI a), .int (nI b)] [] (c_X12_copiesAll t h (a := a) (b := b) (by omega) (by omega)) m_X12_copiesAll q31_0 xo_M rfl (by first | decide | omega) (Nat.le_of_ble_eq_true rfl) dX12_copies_36 rfl (fun r M36 hc36 => ?_)
          obtain ⟨rfl, hR36, hF36⟩ := hc36
          show XV κ (xP (wR t) M36) 39 _ [.int (nI (sCp (σ) (sV (σ)) a b).2)]
          refine x_goto (pc := 39) C 44 dX12_copies_39 (by decide) ?_
          exact x_iret (pc := 44) C X dX12_copies_44 (foq ((o_copies_ok (σ := σ) hn6 ha hb h18).trans (if_neg (by rw [h31]; decide))) hR36 ((hF36 _ _ (by decide) (by decide) (by omega)).trans hg))
      · refine x_bipush (pc := 21) (v := (-2)) C dX12_copies_21 rfl ?_
        exact x_iret (pc := 23) C X dX12_copies_23 (foq (by unfold o_copies; exact if_pos (two_f (by ((try simp only [inB_t, inB_f, i_lt, i_le, i_eq, ne_eq, Bool.not_eq_true, Bool.not_eq_false, hpB, decide_eq_true_eq, decide_eq_false_iff_not, li_0, li_1, li_2, li_3, li_4, li_5, li_6, li_7, li_8, li_9, li_10, li_20, li_40, li_99, li_100, li_255, li_899, li_999, li_m1, li_m2, li_m3, li_m4, li_m11, li_m12, li_m13, li_m14, li_m100] at h5 hta h13 htb h18 ⊢) <;> omega)))) h hg)

set_option maxRecDepth 100000 in
set_option maxHeartbeats 800000 in
theorem c_X12_write (t : CT) {σ : SV} {M : MM} (h : RR σ M) (hg : M 0 28 = 0) (x1 x2 x3 : Int32)  : XMet (wR t) yX12_write cX12_write 5 (some .int) 4 [.ref (t.1 0), .int x1, .int x2, .int x3] M (oQ (o_write σ x1 x2 x3)) := by
  refine x_met RX12 (by decide) rfl (Nat.le_of_ble_eq_true rfl) (fun κ C X E => ?_)
  refine x_L (L' := [(0, .ref (t.1 0)), (1, .int x1), (2, .int x2), (3, .int x3)]) rfl ?_
  have hn6 := rr_n6 h
  have hN6 := h.1.1
  have hq := rr_q h
  have hB := h.1.2.1
  refine x_aload_n (pc := 0) C 0 dX12_write_0 rfl ?_
  refine x_iload_n (pc := 1) C 1 dX12_write_1 rfl ?_
  refine x_callV (pc := 2) C E [.int x1] [] ( c_X12_isDisk t h _) m_X12_isDisk q13_9 xo_M rfl (by decide) (Nat.le_of_ble_eq_true rfl) dX12_write_2 rfl (k_I ?_)
  refine x_ifb_eq (pc := 5) C 27 dX12_write_5 (by decide) (fun h5 => ?_) (fun h5 => ?_)
  · refine x_bipush (pc := 27) (v := (-2)) C dX12_write_27 rfl ?_
    exact x_iret (pc := 29) C X dX12_write_29 (foq (by
          unfold o_write
          repeat (first | with_reducible rfl | (refine (if_pos ?_).trans ?_; ((try simp only [inB_t, inB_f, i_lt, i_le, i_eq, ne_eq, Bool.not_eq_true, Bool.not_eq_false, hpB, decide_eq_true_eq, decide_eq_false_iff_not, li_0, li_1, li_2, li_3, li_4, li_5, li_6, li_7, li_8, li_9, li_10, li_20, li_40, li_99, li_100, li_255, li_899, li_999, li_m1, li_m2, li_m3, li_m4, li_m11, li_m12, li_m13, li_m14, li_m100] at h5 ⊢) <;> omega)) | (refine (if_neg ?_).trans ?_; ((try simp only [inB_t, inB_f, i_lt, i_le, i_eq, ne_eq, Bool.not_eq_true, Bool.not_eq_false, hpB, decide_eq_true_eq, decide_eq_false_iff_not, li_0, li_1, li_2, li_3, li_4, li_5, li_6, li_7, li_8, li_9, li_10, li_20, li_40, li_99, li_100, li_255, li_899, li_999, li_m1, li_m2, li_m3, li_m4, li_m11, li_m12, li_m13, li_m14, li_m100] at h5 ⊢) <;> omega)) | fail)
          all_goals (first | with_reducible rfl | (exfalso; ((try simp only [inB_t, inB_f, i_lt, i_le, i_eq, ne_eq, Bool.not_eq_true, Bool.not_eq_false, hpB, decide_eq_true_eq, decide_eq_false_iff_not, li_0, li_1, li_2, li_3, li_4, li_5, li_6, li_7, li_8, li_9, li_10, li_20, li_40, li_99, li_100, li_255, li_899, li_999, li_m1, li_m2, li_m3, li_m4, li_m11, li_m12, li_m13, li_m14, li_m100] at h5 ⊢) <;> omega)))) h hg)
  · obtain ⟨d, hd, ed⟩ := inB_of h5 (by omega)
    have htd := nI_toInt (n := d) (by omega)
    have hod := oN_nI (n := d) (by omega)
    subst ed
    refine x_iload_n (pc := 8) C 2 dX12_write_8 rfl ?_
    refine x_callS (pc := 9) C E [.int x2] [] (c_X12_isFile t _ _) m_X12_isFile q25_22 rfl (by decide) (Nat.le_of_ble_eq_true rfl) dX12_write_9 rfl (k_I ?_)
    refine x_ifb_eq (pc := 12) C 27 dX12_write_12 (by decide) (fun h12 => ?_) (fun h12 => ?_)
    · refine x_bipush (pc := 27) (v := (-2)) C dX12_write_27 rfl ?_
      exact x_iret (pc := 29) C X dX12_write_29 (foq (by
            unfold o_write
            simp only [hod]
            repeat (first | with_reducible rfl | (refine (if_pos ?_).trans ?_; ((try simp only [inB_t, inB_f, i_lt, i_le, i_eq, ne_eq, Bool.not_eq_true, Bool.not_eq_false, hpB, decide_eq_true_eq, decide_eq_false_iff_not, li_0, li_1, li_2, li_3, li_4, li_5, li_6, li_7, li_8, li_9, li_10, li_20, li_40, li_99, li_100, li_255, li_899, li_999, li_m1, li_m2, li_m3, li_m4, li_m11, li_m12, li_m13, li_m14, li_m100] at h5 htd h12 ⊢) <;> omega)) | (refine (if_neg ?_).trans ?_; ((try simp only [inB_t, inB_f, i_lt, i_le, i_eq, ne_eq, Bool.not_eq_true, Bool.not_eq_false, hpB, decide_eq_true_eq, decide_eq_false_iff_not, li_0, li_1, li_2, li_3, li_4, li_5, li_6, li_7, li_8, li_9, li_10, li_20, li_40, li_99, li_100, li_255, li_899, li_999, li_m1, li_m2, li_m3, li_m4, li_m11, li_m12, li_m13, li_m14, li_m100] at h5 htd h12 ⊢) <;> omega)) | fail)
            all_goals (first | with_reducible rfl | (exfalso; ((try simp only [inB_t, inB_f, i_lt, i_le, i_eq, ne_eq, Bool.not_eq_true, Bool.not_eq_false, hpB, decide_eq_true_eq, decide_eq_false_iff_not, li_0, li_1, li_2, li_3, li_4, li_5, li_6, li_7, li_8, li_9, li_10, li_20, li_40, li_99, li_100, li_255, li_899, li_999, li_m1, li_m2, li_m3, li_m4, li_m11, li_m12, li_m13, li_m14, li_m100] at h5 htd h12 ⊢) <;> omega)))) h hg)
    · obtain ⟨f, hf, ef⟩ := inB_of h12 (by omega)
      have htf := nI_toInt (n := f) (by omega)
      have hof := oN_nI (n := f) (by omega)
      subst ef
      refine x_iload_n (pc := 15) C 3 dX12_write_15 rfl ?_
      refine x_i2l (pc := 16) C dX12_write_16 ?_
      refine x_lconst (pc := 17) (v := 0) C dX12_write_17 rfl ?_
      refine x_ldc2 (pc := 18) (v := 999) C q13_5 dX12_write_18 ?_
      refine x_callS (pc := 21) C E [.long (Int32.toInt64 x3), .long 0, .long 999] [] (c_X12_inB t _ x3 (n := 1000) (by decide) (by decide)) m_X12_in q13_6 rfl (by decide) (Nat.le_of_ble_eq_true rfl) dX12_write_21 rfl (k_I ?_)
      refine x_ifb_ne (pc := 24) C 30 dX12_write_24 (by decide) (fun h24 => ?_) (fun h24 => ?_)
      · refine x_aload_n (pc := 30) C 0 dX12_write_30 rfl ?_
        refine x_iload_n (pc := 31) C 1 dX12_write_31 rfl ?_
        refine x_callV (pc := 32) C E [.int (nI d)] [] ( c_X12_reads t h (d := d) (by omega)) m_X12_reads q13_20 xo_M rfl (by decide) (Nat.le_of_ble_eq_true rfl) dX12_write_32 rfl (k_I ?_)
        refine x_ifb_ne (pc := 35) C 41 dX12_write_35 (by decide) (fun h35 => ?_) (fun h35 => ?_)
        · refine x_aload_n (pc := 41) C 0 dX12_write_41 rfl ?_
          refine x_iload_n (pc := 42) C 1 dX12_write_42 rfl ?_
          refine x_iload_n (pc := 43) C 2 dX12_write_43 rfl ?_
          refine x_callV (pc := 44) C E [.int (nI d), .int (nI f)] [] ( c_X12_hasRoom t h (d := d) (by omega) (f := f) (by omega)) m_X12_hasRoom q28_19 xo_M rfl (by decide) (Nat.le_of_ble_eq_true rfl) dX12_write_44 rfl (k_I ?_)
          refine x_ifb_ne (pc := 47) C 53 dX12_write_47 (by decide) (fun h47 => ?_) (fun h47 => ?_)
          · refine x_bipush (pc := 53) (v := (nI 8)) C dX12_write_53 (by decide) ?_
            refine x_iload_n (pc := 55) C 1 dX12_write_55 rfl ?_
            refine x_imul (pc := 56) C dX12_write_56 ?_
            refine x_eq (show (nI 8) * (nI d) = nI (8 * d) from pk_mul _ _) ?_
            refine x_iload_n (pc := 57) C 2 dX12_write_57 rfl ?_
            refine x_iadd (pc := 58) C dX12_write_58 ?_
            refine x_eq (show (nI (8 * d)) + (nI f) = nI (8 * d + f) from nI_add _ _) ?_
            refine x_istore (pc := 59) (L' := [(4, .int (nI (8 * d + f))), (0, .ref (t.1 0)), (1, .int (nI d)), (2, .int (nI f)), (3, .int x3)]) C dX12_write_59 (by decide) rfl ?_
            refine x_aload_n (pc := 61) C 1 dX12_write_61 rfl ?_
            refine g_M_contents (pc := 62) C E q11_17 dX12_write_62 ?_
            refine x_iload (pc := 65) C 0 dX12_write_65 rfl ?_
            refine x_aload_n (pc := 67) C 1 dX12_write_67 rfl ?_
            refine x_iload_n (pc := 68) C 2 dX12_write_68 rfl ?_
            refine x_iload_n (pc := 69) C 4 dX12_write_69 rfl ?_
            refine x_callV (pc := 70) C E [.int (nI d), .int x3] [.int (nI (8 * d + f)), .ref (t.1 6)] ( c_X12_keepsOf t h (d := d) (by omega) _) m_X12_keepsOf q28_23 xo_M rfl (by decide) (Nat.le_of_ble_eq_true rfl) dX12_write_70 rfl (k_I ?_)
            refine s_Rcontents (pc := 73) C E (by omega) dX12_write_73 ?_
            have hwn : vN (vSet (sV σ) d f (kKeeps (vK (sV (σ)) d) x3) (vT (sV σ) d f)) = vN (sV σ) := rfl
            refine x_aload_n (pc := 74) C 1 dX12_write_74 rfl ?_
            refine g_M_stamps (pc := 75) C E q11_18 dX12_write_75 ?_
            refine x_iload (pc := 78) C 0 dX12_write_78 rfl ?_
            refine x_aload_n (pc := 80) C 1 dX12_write_80 rfl ?_
            refine x_iload_n (pc := 81) C 2 dX12_write_81 rfl ?_
            refine x_callV (pc := 82) C E [.int (nI d)] [.int (nI (8 * d + f)), .ref (t.1 7)] ( c_X12_stampsOf t (rr_setc h hd hf (c := (kKeeps (vK (sV (σ)) d) x3)) (Int.le_trans (by decide) (keeps_nn (by ((try simp only [inB_t, inB_f, i_lt, i_le, i_eq, ne_eq, Bool.not_eq_true, Bool.not_eq_false, hpB, decide_eq_true_eq, decide_eq_false_iff_not, li_0, li_1, li_2, li_3, li_4, li_5, li_6, li_7, li_8, li_9, li_10, li_20, li_40, li_99, li_100, li_255, li_899, li_999, li_m1, li_m2, li_m3, li_m4, li_m11, li_m12, li_m13, li_m14, li_m100] at h5 htd h12 htf h24 h35 h47 ⊢) <;> omega))))) (d := d) (show d < vN ((vSet (sV σ) d f (kKeeps (vK (sV (σ)) d) x3) (vT (sV σ) d f))) by omega)) m_X12_stampsOf q14_0 xo_M rfl (by decide) (Nat.le_of_ble_eq_true rfl) dX12_write_82 rfl (k_I ?_)
            refine x_eq (show kStamp (vK ((vSet (sV σ) d f (kKeeps (vK (sV (σ)) d) x3) (vT (sV σ) d f))) d) (vD ((vSet (sV σ) d f (kKeeps (vK (sV (σ)) d) x3) (vT (sV σ) d f)))) (vU ((vSet (sV σ) d f (kKeeps (vK (sV (σ)) d) x3) (vT (sV σ) d f))) d) = kStamp (vK (sV σ) d) (vD (sV σ)) (vU (sV σ) d) from rfl) ?_
            refine s_Rstamps (pc := 85) C E (by omega) dX12_write_85 ?_
            refine x_aload_n (pc := 86) C 1 dX12_write_86 rfl ?_
            refine g_M_contents (pc := 87) C E q11_17 dX12_write_87 ?_
            refine x_iload (pc := 90) C 0 dX12_write_90 rfl ?_
            refine l_Rcontents (pc := 92) C E (by omega) dX12_write_92 ?_
            refine x_eq (show (mu (mu M 6 (8 * d + f) (kKeeps (vK (sV (σ)) d) x3)) 7 (8 * d + f) (kStamp (vK (sV σ) d) (vD (sV σ)) (vU (sV σ) d))) 6 (8 * d + f) = vC ((vSet (sV σ) d f (kKeeps (vK (sV (σ)) d) x3) (vT (sV σ) d f))) d f from ((congrFun (mu_n _ _ _ _ (by decide)) _).trans (rr_ct (rr_setc h hd hf (c := (kKeeps (vK (sV (σ)) d) x3)) (Int.le_trans (by decide) (keeps_nn (by ((try simp only [inB_t, inB_f, i_lt, i_le, i_eq, ne_eq, Bool.not_eq_true, Bool.not_eq_false, hpB, decide_eq_true_eq, decide_eq_false_iff_not, li_0, li_1, li_2, li_3, li_4, li_5, li_6, li_7, li_8, li_9, li_10, li_20, li_40, li_99, li_100, li_255, li_899, li_999, li_m1, li_m2, li_m3, li_m4, li_m11, li_m12, li_m13, li_m14, li_m100] at h5 htd h12 htf h24 h35 h47 ⊢) <;> omega))))) (show d < vN ((vSet (sV σ) d f (kKeeps (vK (sV (σ)) d) x3) (vT (sV σ) d f))) by omega) (by omega)))) ?_
            refine x_eq (show vC ((vSet (sV σ) d f (kKeeps (vK (sV (σ)) d) x3) (vT (sV σ) d f))) d f = kKeeps (vK (sV σ) d) x3 from ((vC_set _ _ _ _ _ _ _).trans (if_pos ⟨rfl, rfl⟩))) ?_
            exact x_iret (pc := 93) C X dX12_write_93 (foq (by
                  unfold o_write
                  simp only [hod, hof]
                  repeat (first | with_reducible rfl | (refine (if_pos ?_).trans ?_; ((try simp only [inB_t, inB_f, i_lt, i_le, i_eq, ne_eq, Bool.not_eq_true, Bool.not_eq_false, hpB, decide_eq_true_eq, decide_eq_false_iff_not, li_0, li_1, li_2, li_3, li_4, li_5, li_6, li_7, li_8, li_9, li_10, li_20, li_40, li_99, li_100, li_255, li_899, li_999, li_m1, li_m2, li_m3, li_m4, li_m11, li_m12, li_m13, li_m14, li_m100] at h5 htd h12 htf h24 h35 h47 ⊢) <;> omega)) | (refine (if_neg ?_).trans ?_; ((try simp only [inB_t, inB_f, i_lt, i_le, i_eq, ne_eq, Bool.not_eq_true, Bool.not_eq_false, hpB, decide_eq_true_eq, decide_eq_false_iff_not, li_0, li_1, li_2, li_3, li_4, li_5, li_6, li_7, li_8, li_9, li_10, li_20, li_40, li_99, li_100, li_255, li_899, li_999, li_m1, li_m2, li_m3, li_m4, li_m11, li_m12, li_m13, li_m14, li_m100] at h5 htd h12 htf h24 h35 h47 ⊢) <;> omega)) | fail)
                  all_goals (first | with_reducible rfl | (exfalso; ((try simp only [inB_t, inB_f, i_lt, i_le, i_eq, ne_eq, Bool.not_eq_true, Bool.not_eq_false, hpB, decide_eq_true_eq, decide_eq_false_iff_not, li_0, li_1, li_2, li_3, li_4, li_5, li_6, li_7, li_8, li_9, li_10, li_20, li_40, li_99, li_100, li_255, li_899, li_999, li_m1, li_m2, li_m3, li_m4, li_m11, li_m12, li_m13, li_m14, li_m100] at h5 htd h12 htf h24 h35 h47 ⊢) <;> omega)))) (rr_set h hd hf (Int.le_trans (by decide) (keeps_nn (by ((try simp only [inB_t, inB_f, i_lt, i_le, i_eq, ne_eq, Bool.not_eq_true, Bool.not_eq_false, hpB, decide_eq_true_eq, decide_eq_false_iff_not, li_0, li_1, li_2, li_3, li_4, li_5, li_6, li_7, li_8, li_9, li_10, li_20, li_40, li_99, li_100, li_255, li_899, li_999, li_m1, li_m2, li_m3, li_m4, li_m11, li_m12, li_m13, li_m14, li_m100] at h5 htd h12 htf h24 h35 h47 ⊢) <;> omega))))) ((congrFun (mu_n _ _ _ _ (by decide)) _).trans ((congrFun (mu_n _ _ _ _ (by decide)) _).trans hg)))
          · refine x_bipush (pc := 50) (v := (-4)) C dX12_write_50 rfl ?_
            exact x_iret (pc := 52) C X dX12_write_52 (foq (by
                  unfold o_write
                  simp only [hod, hof]
                  repeat (first | with_reducible rfl | (refine (if_pos ?_).trans ?_; ((try simp only [inB_t, inB_f, i_lt, i_le, i_eq, ne_eq, Bool.not_eq_true, Bool.not_eq_false, hpB, decide_eq_true_eq, decide_eq_false_iff_not, li_0, li_1, li_2, li_3, li_4, li_5, li_6, li_7, li_8, li_9, li_10, li_20, li_40, li_99, li_100, li_255, li_899, li_999, li_m1, li_m2, li_m3, li_m4, li_m11, li_m12, li_m13, li_m14, li_m100] at h5 htd h12 htf h24 h35 h47 ⊢) <;> omega)) | (refine (if_neg ?_).trans ?_; ((try simp only [inB_t, inB_f, i_lt, i_le, i_eq, ne_eq, Bool.not_eq_true, Bool.not_eq_false, hpB, decide_eq_true_eq, decide_eq_false_iff_not, li_0, li_1, li_2, li_3, li_4, li_5, li_6, li_7, li_8, li_9, li_10, li_20, li_40, li_99, li_100, li_255, li_899, li_999, li_m1, li_m2, li_m3, li_m4, li_m11, li_m12, li_m13, li_m14, li_m100] at h5 htd h12 htf h24 h35 h47 ⊢) <;> omega)) | fail)
                  all_goals (first | with_reducible rfl | (exfalso; ((try simp only [inB_t, inB_f, i_lt, i_le, i_eq, ne_eq, Bool.not_eq_true, Bool.not_eq_false, hpB, decide_eq_true_eq, decide_eq_false_iff_not, li_0, li_1, li_2, li_3, li_4, li_5, li_6, li_7, li_8, li_9, li_10, li_20, li_40, li_99, li_100, li_255, li_899, li_999, li_m1, li_m2, li_m3, li_m4, li_m11, li_m12, li_m13, li_m14, li_m100] at h5 htd h12 htf h24 h35 h47 ⊢) <;> omega)))) h hg)
        · refine x_bipush (pc := 38) (v := (-3)) C dX12_write_38 rfl ?_
          exact x_iret (pc := 40) C X dX12_write_40 (foq (by
                unfold o_write
                simp only [hod, hof]
                repeat (first | with_reducible rfl | (refine (if_pos ?_).trans ?_; ((try simp only [inB_t, inB_f, i_lt, i_le, i_eq, ne_eq, Bool.not_eq_true, Bool.not_eq_false, hpB, decide_eq_true_eq, decide_eq_false_iff_not, li_0, li_1, li_2, li_3, li_4, li_5, li_6, li_7, li_8, li_9, li_10, li_20, li_40, li_99, li_100, li_255, li_899, li_999, li_m1, li_m2, li_m3, li_m4, li_m11, li_m12, li_m13, li_m14, li_m100] at h5 htd h12 htf h24 h35 ⊢) <;> omega)) | (refine (if_neg ?_).trans ?_; ((try simp only [inB_t, inB_f, i_lt, i_le, i_eq, ne_eq, Bool.not_eq_true, Bool.not_eq_false, hpB, decide_eq_true_eq, decide_eq_false_iff_not, li_0, li_1, li_2, li_3, li_4, li_5, li_6, li_7, li_8, li_9, li_10, li_20, li_40, li_99, li_100, li_255, li_899, li_999, li_m1, li_m2, li_m3, li_m4, li_m11, li_m12, li_m13, li_m14, li_m100] at h5 htd h12 htf h24 h35 ⊢) <;> omega)) | fail)
                all_goals (first | with_reducible rfl | (exfalso; ((try simp only [inB_t, inB_f, i_lt, i_le, i_eq, ne_eq, Bool.not_eq_true, Bool.not_eq_false, hpB, decide_eq_true_eq, decide_eq_false_iff_not, li_0, li_1, li_2, li_3, li_4, li_5, li_6, li_7, li_8, li_9, li_10, li_20, li_40, li_99, li_100, li_255, li_899, li_999, li_m1, li_m2, li_m3, li_m4, li_m11, li_m12, li_m13, li_m14, li_m100] at h5 htd h12 htf h24 h35 ⊢) <;> omega)))) h hg)
      · refine x_bipush (pc := 27) (v := (-2)) C dX12_write_27 rfl ?_
        exact x_iret (pc := 29) C X dX12_write_29 (foq (by
              unfold o_write
              simp only [hod, hof]
              repeat (first | with_reducible rfl | (refine (if_pos ?_).trans ?_; ((try simp only [inB_t, inB_f, i_lt, i_le, i_eq, ne_eq, Bool.not_eq_true, Bool.not_eq_false, hpB, decide_eq_true_eq, decide_eq_false_iff_not, li_0, li_1, li_2, li_3, li_4, li_5, li_6, li_7, li_8, li_9, li_10, li_20, li_40, li_99, li_100, li_255, li_899, li_999, li_m1, li_m2, li_m3, li_m4, li_m11, li_m12, li_m13, li_m14, li_m100] at h5 htd h12 htf h24 ⊢) <;> omega)) | (refine (if_neg ?_).trans ?_; ((try simp only [inB_t, inB_f, i_lt, i_le, i_eq, ne_eq, Bool.not_eq_true, Bool.not_eq_false, hpB, decide_eq_true_eq, decide_eq_false_iff_not, li_0, li_1, li_2, li_3, li_4, li_5, li_6, li_7, li_8, li_9, li_10, li_20, li_40, li_99, li_100, li_255, li_899, li_999, li_m1, li_m2, li_m3, li_m4, li_m11, li_m12, li_m13, li_m14, li_m100] at h5 htd h12 htf h24 ⊢) <;> omega)) | fail)
              all_goals (first | with_reducible rfl | (exfalso; ((try simp only [inB_t, inB_f, i_lt, i_le, i_eq, ne_eq, Bool.not_eq_true, Bool.not_eq_false, hpB, decide_eq_true_eq, decide_eq_false_iff_not, li_0, li_1, li_2, li_3, li_4, li_5, li_6, li_7, li_8, li_9, li_10, li_20, li_40, li_99, li_100, li_255, li_899, li_999, li_m1, li_m2, li_m3, li_m4, li_m11, li_m12, li_m13, li_m14, li_m100] at h5 htd h12 htf h24 ⊢) <;> omega)))) h hg)

set_option maxRecDepth 100000 in
set_option maxHeartbeats 800000 in
theorem c_X12_empties (t : CT) (M : MM) {d f : Nat} (hd : d < 6) (hf : f < 8) : XMet (wR t) yX12_empties cX12_empties 3 none 1 [.ref (t.1 0), .int (nI d), .int (nI f)] M (rU (mu (mu M 6 (8 * d + f) (-1)) 7 (8 * d + f) (-100))) := by
  refine x_met RX12 (by decide) rfl (Nat.le_of_ble_eq_true rfl) (fun κ C X E => ?_)
  refine x_L (L' := [(0, .ref (t.1 0)), (1, .int (nI d)), (2, .int (nI f))]) rfl ?_
  refine x_aload_n (pc := 0) C 0 dX12_empties_0 rfl ?_
  refine g_M_contents (pc := 1) C E q11_17 dX12_empties_1 ?_
  refine x_bipush (pc := 4) (v := (nI 8)) C dX12_empties_4 (by decide) ?_
  refine x_iload_n (pc := 6) C 1 dX12_empties_6 rfl ?_
  refine x_imul (pc := 7) C dX12_empties_7 ?_
  refine x_eq (show (nI 8) * (nI d) = nI (8 * d) from pk_mul _ _) ?_
  refine x_iload_n (pc := 8) C 2 dX12_empties_8 rfl ?_
  refine x_iadd (pc := 9) C dX12_empties_9 ?_
  refine x_eq (show (nI (8 * d)) + (nI f) = nI (8 * d + f) from nI_add _ _) ?_
  refine x_iconst (pc := 10) (v := (-1)) C dX12_empties_10 rfl ?_
  refine s_Rcontents (pc := 11) C E (by omega) dX12_empties_11 ?_
  refine x_aload_n (pc := 12) C 0 dX12_empties_12 rfl ?_
  refine g_M_stamps (pc := 13) C E q11_18 dX12_empties_13 ?_
  refine x_bipush (pc := 16) (v := (nI 8)) C dX12_empties_16 (by decide) ?_
  refine x_iload_n (pc := 18) C 1 dX12_empties_18 rfl ?_
  refine x_imul (pc := 19) C dX12_empties_19 ?_
  refine x_eq (show (nI 8) * (nI d) = nI (8 * d) from pk_mul _ _) ?_
  refine x_iload_n (pc := 20) C 2 dX12_empties_20 rfl ?_
  refine x_iadd (pc := 21) C dX12_empties_21 ?_
  refine x_eq (show (nI (8 * d)) + (nI f) = nI (8 * d + f) from nI_add _ _) ?_
  refine x_bipush (pc := 22) (v := (-100)) C dX12_empties_22 rfl ?_
  refine s_Rstamps (pc := 24) C E (by omega) dX12_empties_24 ?_
  exact x_vret (pc := 25) C X dX12_empties_25 ⟨rfl, rfl⟩

set_option maxRecDepth 100000 in
set_option maxHeartbeats 800000 in
theorem c_X12_lose (t : CT) {σ : SV} {M : MM} (h : RR σ M) (hg : M 0 28 = 0) (x1 x2 : Int32)  : XMet (wR t) yX12_lose cX12_lose 4 (some .int) 3 [.ref (t.1 0), .int x1, .int x2] M (oQ (o_lose σ x1 x2)) := by
  refine x_met RX12 (by decide) rfl (Nat.le_of_ble_eq_true rfl) (fun κ C X E => ?_)
  refine x_L (L' := [(0, .ref (t.1 0)), (1, .int x1), (2, .int x2)]) rfl ?_
  have hn6 := rr_n6 h
  have hN6 := h.1.1
  have hq := rr_q h
  have hB := h.1.2.1
  refine x_aload_n (pc := 0) C 0 dX12_lose_0 rfl ?_
  refine x_iload_n (pc := 1) C 1 dX12_lose_1 rfl ?_
  refine x_callV (pc := 2) C E [.int x1] [] ( c_X12_isDisk t h _) m_X12_isDisk q13_9 xo_M rfl (by decide) (Nat.le_of_ble_eq_true rfl) dX12_lose_2 rfl (k_I ?_)
  refine x_ifb_eq (pc := 5) C 15 dX12_lose_5 (by decide) (fun h5 => ?_) (fun h5 => ?_)
  · refine x_bipush (pc := 15) (v := (-2)) C dX12_lose_15 rfl ?_
    exact x_iret (pc := 17) C X dX12_lose_17 (foq (by
          unfold o_lose
          repeat (first | with_reducible rfl | (refine (if_pos ?_).trans ?_; ((try simp only [inB_t, inB_f, i_lt, i_le, i_eq, ne_eq, Bool.not_eq_true, Bool.not_eq_false, hpB, decide_eq_true_eq, decide_eq_false_iff_not, li_0, li_1, li_2, li_3, li_4, li_5, li_6, li_7, li_8, li_9, li_10, li_20, li_40, li_99, li_100, li_255, li_899, li_999, li_m1, li_m2, li_m3, li_m4, li_m11, li_m12, li_m13, li_m14, li_m100] at h5 ⊢) <;> omega)) | (refine (if_neg ?_).trans ?_; ((try simp only [inB_t, inB_f, i_lt, i_le, i_eq, ne_eq, Bool.not_eq_true, Bool.not_eq_false, hpB, decide_eq_true_eq, decide_eq_false_iff_not, li_0, li_1, li_2, li_3, li_4, li_5, li_6, li_7, li_8, li_9, li_10, li_20, li_40, li_99, li_100, li_255, li_899, li_999, li_m1, li_m2, li_m3, li_m4, li_m11, li_m12, li_m13, li_m14, li_m100] at h5 ⊢) <;> omega)) | fail)
          all_goals (first | with_reducible rfl | (exfalso; ((try simp only [inB_t, inB_f, i_lt, i_le, i_eq, ne_eq, Bool.not_eq_true, Bool.not_eq_false, hpB, decide_eq_true_eq, decide_eq_false_iff_not, li_0, li_1, li_2, li_3, li_4, li_5, li_6, li_7, li_8, li_9, li_10, li_20, li_40, li_99, li_100, li_255, li_899, li_999, li_m1, li_m2, li_m3, li_m4, li_m11, li_m12, li_m13, li_m14, li_m100] at h5 ⊢) <;> omega)))) h hg)
  · obtain ⟨d, hd, ed⟩ := inB_of h5 (by omega)
    have htd := nI_toInt (n := d) (by omega)
    have hod := oN_nI (n := d) (by omega)
    subst ed
    refine x_iload_n (pc := 8) C 2 dX12_lose_8 rfl ?_
    refine x_callS (pc := 9) C E [.int x2] [] (c_X12_isFile t _ _) m_X12_isFile q25_22 rfl (by decide) (Nat.le_of_ble_eq_true rfl) dX12_lose_9 rfl (k_I ?_)
    refine x_ifb_ne (pc := 12) C 18 dX12_lose_12 (by decide) (fun h12 => ?_) (fun h12 => ?_)
    · obtain ⟨f, hf, ef⟩ := inB_of h12 (by omega)
      have htf := nI_toInt (n := f) (by omega)
      have hof := oN_nI (n := f) (by omega)
      subst ef
      refine x_aload_n (pc := 18) C 0 dX12_lose_18 rfl ?_
      refine x_iload_n (pc := 19) C 1 dX12_lose_19 rfl ?_
      refine x_callV (pc := 20) C E [.int (nI d)] [] ( c_X12_reads t h (d := d) (by omega)) m_X12_reads q13_20 xo_M rfl (by decide) (Nat.le_of_ble_eq_true rfl) dX12_lose_20 rfl (k_I ?_)
      refine x_ifb_ne (pc := 23) C 29 dX12_lose_23 (by decide) (fun h23 => ?_) (fun h23 => ?_)
      · refine x_aload_n (pc := 29) C 0 dX12_lose_29 rfl ?_
        refine g_M_contents (pc := 30) C E q11_17 dX12_lose_30 ?_
        refine x_bipush (pc := 33) (v := (nI 8)) C dX12_lose_33 (by decide) ?_
        refine x_iload_n (pc := 35) C 1 dX12_lose_35 rfl ?_
        refine x_imul (pc := 36) C dX12_lose_36 ?_
        refine x_eq (show (nI 8) * (nI d) = nI (8 * d) from pk_mul _ _) ?_
        refine x_iload_n (pc := 37) C 2 dX12_lose_37 rfl ?_
        refine x_iadd (pc := 38) C dX12_lose_38 ?_
        refine x_eq (show (nI (8 * d)) + (nI f) = nI (8 * d + f) from nI_add _ _) ?_
        refine l_Rcontents (pc := 39) C E (by omega) dX12_lose_39 ?_
        refine x_eq (show M 6 (8 * d + f) = vC (sV (σ)) d f from (rr_ct h (by omega) (by omega))) ?_
        refine x_istore_n (pc := 40) (L' := [(3, .int (vC (sV (σ)) d f)), (0, .ref (t.1 0)), (1, .int (nI d)), (2, .int (nI f))]) C dX12_lose_40 (by decide) rfl ?_
        refine x_aload_n (pc := 41) C 1 dX12_lose_41 rfl ?_
        refine x_iload_n (pc := 42) C 2 dX12_lose_42 rfl ?_
        refine x_iload_n (pc := 43) C 3 dX12_lose_43 rfl ?_
        refine x_callV (pc := 44) C E [.int (nI d), .int (nI f)] [] (c_X12_empties t _ (d := d) (f := f) (by omega) (by omega)) m_X12_empties q19_21 xo_M rfl (by first | decide | omega) (Nat.le_of_ble_eq_true rfl) dX12_lose_44 rfl (k_U ?_)
        refine x_iload_n (pc := 47) C 0 dX12_lose_47 rfl ?_
        exact x_iret (pc := 48) C X dX12_lose_48 (foq (by
              unfold o_lose
              simp only [hod, hof]
              repeat (first | with_reducible rfl | (refine (if_pos ?_).trans ?_; ((try simp only [inB_t, inB_f, i_lt, i_le, i_eq, ne_eq, Bool.not_eq_true, Bool.not_eq_false, hpB, decide_eq_true_eq, decide_eq_false_iff_not, li_0, li_1, li_2, li_3, li_4, li_5, li_6, li_7, li_8, li_9, li_10, li_20, li_40, li_99, li_100, li_255, li_899, li_999, li_m1, li_m2, li_m3, li_m4, li_m11, li_m12, li_m13, li_m14, li_m100] at h5 htd h12 htf h23 ⊢) <;> omega)) | (refine (if_neg ?_).trans ?_; ((try simp only [inB_t, inB_f, i_lt, i_le, i_eq, ne_eq, Bool.not_eq_true, Bool.not_eq_false, hpB, decide_eq_true_eq, decide_eq_false_iff_not, li_0, li_1, li_2, li_3, li_4, li_5, li_6, li_7, li_8, li_9, li_10, li_20, li_40, li_99, li_100, li_255, li_899, li_999, li_m1, li_m2, li_m3, li_m4, li_m11, li_m12, li_m13, li_m14, li_m100] at h5 htd h12 htf h23 ⊢) <;> omega)) | fail)
              all_goals (first | with_reducible rfl | (exfalso; ((try simp only [inB_t, inB_f, i_lt, i_le, i_eq, ne_eq, Bool.not_eq_true, Bool.not_eq_false, hpB, decide_eq_true_eq, decide_eq_false_iff_not, li_0, li_1, li_2, li_3, li_4, li_5, li_6, li_7, li_8, li_9, li_10, li_20, li_40, li_99, li_100, li_255, li_899, li_999, li_m1, li_m2, li_m3, li_m4, li_m11, li_m12, li_m13, li_m14, li_m100] at h5 htd h12 htf h23 ⊢) <;> omega)))) (rr_set h hd hf (by decide)) ((congrFun (mu_n _ _ _ _ (by decide)) _).trans ((congrFun (mu_n _ _ _ _ (by decide)) _).trans hg)))
      · refine x_bipush (pc := 26) (v := (-3)) C dX12_lose_26 rfl ?_
        exact x_iret (pc := 28) C X dX12_lose_28 (foq (by
              unfold o_lose
              simp only [hod, hof]
              repeat (first | with_reducible rfl | (refine (if_pos ?_).trans ?_; ((try simp only [inB_t, inB_f, i_lt, i_le, i_eq, ne_eq, Bool.not_eq_true, Bool.not_eq_false, hpB, decide_eq_true_eq, decide_eq_false_iff_not, li_0, li_1, li_2, li_3, li_4, li_5, li_6, li_7, li_8, li_9, li_10, li_20, li_40, li_99, li_100, li_255, li_899, li_999, li_m1, li_m2, li_m3, li_m4, li_m11, li_m12, li_m13, li_m14, li_m100] at h5 htd h12 htf h23 ⊢) <;> omega)) | (refine (if_neg ?_).trans ?_; ((try simp only [inB_t, inB_f, i_lt, i_le, i_eq, ne_eq, Bool.not_eq_true, Bool.not_eq_false, hpB, decide_eq_true_eq, decide_eq_false_iff_not, li_0, li_1, li_2, li_3, li_4, li_5, li_6, li_7, li_8, li_9, li_10, li_20, li_40, li_99, li_100, li_255, li_899, li_999, li_m1, li_m2, li_m3, li_m4, li_m11, li_m12, li_m13, li_m14, li_m100] at h5 htd h12 htf h23 ⊢) <;> omega)) | fail)
              all_goals (first | with_reducible rfl | (exfalso; ((try simp only [inB_t, inB_f, i_lt, i_le, i_eq, ne_eq, Bool.not_eq_true, Bool.not_eq_false, hpB, decide_eq_true_eq, decide_eq_false_iff_not, li_0, li_1, li_2, li_3, li_4, li_5, li_6, li_7, li_8, li_9, li_10, li_20, li_40, li_99, li_100, li_255, li_899, li_999, li_m1, li_m2, li_m3, li_m4, li_m11, li_m12, li_m13, li_m14, li_m100] at h5 htd h12 htf h23 ⊢) <;> omega)))) h hg)
    · refine x_bipush (pc := 15) (v := (-2)) C dX12_lose_15 rfl ?_
      exact x_iret (pc := 17) C X dX12_lose_17 (foq (by
            unfold o_lose
            simp only [hod]
            repeat (first | with_reducible rfl | (refine (if_pos ?_).trans ?_; ((try simp only [inB_t, inB_f, i_lt, i_le, i_eq, ne_eq, Bool.not_eq_true, Bool.not_eq_false, hpB, decide_eq_true_eq, decide_eq_false_iff_not, li_0, li_1, li_2, li_3, li_4, li_5, li_6, li_7, li_8, li_9, li_10, li_20, li_40, li_99, li_100, li_255, li_899, li_999, li_m1, li_m2, li_m3, li_m4, li_m11, li_m12, li_m13, li_m14, li_m100] at h5 htd h12 ⊢) <;> omega)) | (refine (if_neg ?_).trans ?_; ((try simp only [inB_t, inB_f, i_lt, i_le, i_eq, ne_eq, Bool.not_eq_true, Bool.not_eq_false, hpB, decide_eq_true_eq, decide_eq_false_iff_not, li_0, li_1, li_2, li_3, li_4, li_5, li_6, li_7, li_8, li_9, li_10, li_20, li_40, li_99, li_100, li_255, li_899, li_999, li_m1, li_m2, li_m3, li_m4, li_m11, li_m12, li_m13, li_m14, li_m100] at h5 htd h12 ⊢) <;> omega)) | fail)
            all_goals (first | with_reducible rfl | (exfalso; ((try simp only [inB_t, inB_f, i_lt, i_le, i_eq, ne_eq, Bool.not_eq_true, Bool.not_eq_false, hpB, decide_eq_true_eq, decide_eq_false_iff_not, li_0, li_1, li_2, li_3, li_4, li_5, li_6, li_7, li_8, li_9, li_10, li_20, li_40, li_99, li_100, li_255, li_899, li_999, li_m1, li_m2, li_m3, li_m4, li_m11, li_m12, li_m13, li_m14, li_m100] at h5 htd h12 ⊢) <;> omega)))) h hg)

set_option maxRecDepth 100000 in
set_option maxHeartbeats 800000 in
theorem c_X12_feed (t : CT) {σ : SV} {M : MM} (h : RR σ M) (hg : M 0 28 = 0) (x1 : Int32)  : XMet (wR t) yX12_feed cX12_feed 2 (some .int) 2 [.ref (t.1 0), .int x1] M (oQ (o_feed σ x1)) := by
  refine x_met RX12 (by decide) rfl (Nat.le_of_ble_eq_true rfl) (fun κ C X E => ?_)
  refine x_L (L' := [(0, .ref (t.1 0)), (1, .int x1)]) rfl ?_
  have hn6 := rr_n6 h
  have hN6 := h.1.1
  have hq := rr_q h
  have hB := h.1.2.1
  refine x_iload_n (pc := 0) C 1 dX12_feed_0 rfl ?_
  refine x_i2l (pc := 1) C dX12_feed_1 ?_
  refine x_lconst (pc := 2) (v := 0) C dX12_feed_2 rfl ?_
  refine x_ldc2 (pc := 3) (v := 255) C q26_11 dX12_feed_3 ?_
  refine x_callS (pc := 6) C E [.long (Int32.toInt64 x1), .long 0, .long 255] [] (c_X12_inB t _ x1 (n := 256) (by decide) (by decide)) m_X12_in q13_6 rfl (by decide) (Nat.le_of_ble_eq_true rfl) dX12_feed_6 rfl (k_I ?_)
  refine x_ifb_ne (pc := 9) C 15 dX12_feed_9 (by decide) (fun h9 => ?_) (fun h9 => ?_)
  · refine x_aload_n (pc := 15) C 0 dX12_feed_15 rfl ?_
    refine g_M_taped (pc := 16) C E q26_12 dX12_feed_16 ?_
    refine x_eq (show M 0 6 = nI (sB (σ)) from (rr_tb h)) ?_
    refine x_sipush (pc := 19) (v := 160) C dX12_feed_19 rfl ?_
    refine x_icmp_ne (pc := 22) C 28 dX12_feed_22 (by decide) (fun h22 => ?_) (fun h22 => ?_)
    · have hb1 : sB σ < 160 := Nat.lt_of_le_of_ne hB (fun e => h22 (by rw [e]; rfl))
      refine x_aload_n (pc := 28) C 0 dX12_feed_28 rfl ?_
      refine g_M_tape (pc := 29) C E q11_14 dX12_feed_29 ?_
      refine x_aload_n (pc := 32) C 0 dX12_feed_32 rfl ?_
      refine g_M_taped (pc := 33) C E q26_12 dX12_feed_33 ?_
      refine x_eq (show M 0 6 = nI (sB (σ)) from (rr_tb h)) ?_
      refine x_iload_n (pc := 36) C 1 dX12_feed_36 rfl ?_
      refine s_Rtape (pc := 37) C E (by omega) dX12_feed_37 ?_
      refine x_aload_n (pc := 38) C 0 dX12_feed_38 rfl ?_
      refine x_dup (pc := 39) C dX12_feed_39 rfl ?_
      refine g_M_taped (pc := 40) C E q26_12 dX12_feed_40 ?_
      refine x_eq (show (mu M 3 (sB (σ)) x1) 0 6 = nI (sB (σ)) from ((congrFun (mu_n _ _ _ _ (by decide)) _).trans (rr_tb h))) ?_
      refine x_iconst (pc := 43) (v := 1) C dX12_feed_43 rfl ?_
      refine x_iadd (pc := 44) C dX12_feed_44 ?_
      refine x_eq (show (nI (sB (σ))) + 1 = nI (sB σ + 1) from nI_1 _) ?_
      refine p_M_taped (pc := 45) C E q26_12 dX12_feed_45 ?_
      refine x_aload_n (pc := 48) C 0 dX12_feed_48 rfl ?_
      refine g_M_taped (pc := 49) C E q26_12 dX12_feed_49 ?_
      refine x_eq (show (mu (mu M 3 (sB (σ)) x1) 0 6 (nI (sB σ + 1))) 0 6 = nI (sB σ + 1) from (mu_s _ _ _ _)) ?_
      exact x_iret (pc := 52) C X dX12_feed_52 (foq (by
            unfold o_feed
            repeat (first | with_reducible rfl | (refine (if_pos ?_).trans ?_; ((try simp only [inB_t, inB_f, i_lt, i_le, i_eq, ne_eq, Bool.not_eq_true, Bool.not_eq_false, hpB, decide_eq_true_eq, decide_eq_false_iff_not, li_0, li_1, li_2, li_3, li_4, li_5, li_6, li_7, li_8, li_9, li_10, li_20, li_40, li_99, li_100, li_255, li_899, li_999, li_m1, li_m2, li_m3, li_m4, li_m11, li_m12, li_m13, li_m14, li_m100] at h9 h22 ⊢) <;> omega)) | (refine (if_neg ?_).trans ?_; ((try simp only [inB_t, inB_f, i_lt, i_le, i_eq, ne_eq, Bool.not_eq_true, Bool.not_eq_false, hpB, decide_eq_true_eq, decide_eq_false_iff_not, li_0, li_1, li_2, li_3, li_4, li_5, li_6, li_7, li_8, li_9, li_10, li_20, li_40, li_99, li_100, li_255, li_899, li_999, li_m1, li_m2, li_m3, li_m4, li_m11, li_m12, li_m13, li_m14, li_m100] at h9 h22 ⊢) <;> omega)) | fail)
            all_goals (first | with_reducible rfl | (exfalso; ((try simp only [inB_t, inB_f, i_lt, i_le, i_eq, ne_eq, Bool.not_eq_true, Bool.not_eq_false, hpB, decide_eq_true_eq, decide_eq_false_iff_not, li_0, li_1, li_2, li_3, li_4, li_5, li_6, li_7, li_8, li_9, li_10, li_20, li_40, li_99, li_100, li_255, li_899, li_999, li_m1, li_m2, li_m3, li_m4, li_m11, li_m12, li_m13, li_m14, li_m100] at h9 h22 ⊢) <;> omega)))) (show RR (setB σ (sB σ + 1) (fun k => if k = sB σ then x1 else sY σ k)) _ from rr_feed h hb1 (by ((try simp only [inB_t, inB_f, i_lt, i_le, i_eq, ne_eq, Bool.not_eq_true, Bool.not_eq_false, hpB, decide_eq_true_eq, decide_eq_false_iff_not, li_0, li_1, li_2, li_3, li_4, li_5, li_6, li_7, li_8, li_9, li_10, li_20, li_40, li_99, li_100, li_255, li_899, li_999, li_m1, li_m2, li_m3, li_m4, li_m11, li_m12, li_m13, li_m14, li_m100] at h9 h22 ⊢) <;> omega))) ((mu_k _ _ _ _ (by decide)).trans ((congrFun (mu_n _ _ _ _ (by decide)) _).trans hg)))
    · have hb2 : sB σ = 160 := (nI_eq (b := 160) (by omega) (by decide)).mp h22
      refine x_bipush (pc := 25) (v := (-4)) C dX12_feed_25 rfl ?_
      exact x_iret (pc := 27) C X dX12_feed_27 (foq (by
            unfold o_feed
            repeat (first | with_reducible rfl | (refine (if_pos ?_).trans ?_; ((try simp only [inB_t, inB_f, i_lt, i_le, i_eq, ne_eq, Bool.not_eq_true, Bool.not_eq_false, hpB, decide_eq_true_eq, decide_eq_false_iff_not, li_0, li_1, li_2, li_3, li_4, li_5, li_6, li_7, li_8, li_9, li_10, li_20, li_40, li_99, li_100, li_255, li_899, li_999, li_m1, li_m2, li_m3, li_m4, li_m11, li_m12, li_m13, li_m14, li_m100] at h9 h22 ⊢) <;> omega)) | (refine (if_neg ?_).trans ?_; ((try simp only [inB_t, inB_f, i_lt, i_le, i_eq, ne_eq, Bool.not_eq_true, Bool.not_eq_false, hpB, decide_eq_true_eq, decide_eq_false_iff_not, li_0, li_1, li_2, li_3, li_4, li_5, li_6, li_7, li_8, li_9, li_10, li_20, li_40, li_99, li_100, li_255, li_899, li_999, li_m1, li_m2, li_m3, li_m4, li_m11, li_m12, li_m13, li_m14, li_m100] at h9 h22 ⊢) <;> omega)) | fail)
            all_goals (first | with_reducible rfl | (exfalso; ((try simp only [inB_t, inB_f, i_lt, i_le, i_eq, ne_eq, Bool.not_eq_true, Bool.not_eq_false, hpB, decide_eq_true_eq, decide_eq_false_iff_not, li_0, li_1, li_2, li_3, li_4, li_5, li_6, li_7, li_8, li_9, li_10, li_20, li_40, li_99, li_100, li_255, li_899, li_999, li_m1, li_m2, li_m3, li_m4, li_m11, li_m12, li_m13, li_m14, li_m100] at h9 h22 ⊢) <;> omega)))) h hg)
  · refine x_bipush (pc := 12) (v := (-2)) C dX12_feed_12 rfl ?_
    exact x_iret (pc := 14) C X dX12_feed_14 (foq (by
          unfold o_feed
          repeat (first | with_reducible rfl | (refine (if_pos ?_).trans ?_; ((try simp only [inB_t, inB_f, i_lt, i_le, i_eq, ne_eq, Bool.not_eq_true, Bool.not_eq_false, hpB, decide_eq_true_eq, decide_eq_false_iff_not, li_0, li_1, li_2, li_3, li_4, li_5, li_6, li_7, li_8, li_9, li_10, li_20, li_40, li_99, li_100, li_255, li_899, li_999, li_m1, li_m2, li_m3, li_m4, li_m11, li_m12, li_m13, li_m14, li_m100] at h9 ⊢) <;> omega)) | (refine (if_neg ?_).trans ?_; ((try simp only [inB_t, inB_f, i_lt, i_le, i_eq, ne_eq, Bool.not_eq_true, Bool.not_eq_false, hpB, decide_eq_true_eq, decide_eq_false_iff_not, li_0, li_1, li_2, li_3, li_4, li_5, li_6, li_7, li_8, li_9, li_10, li_20, li_40, li_99, li_100, li_255, li_899, li_999, li_m1, li_m2, li_m3, li_m4, li_m11, li_m12, li_m13, li_m14, li_m100] at h9 ⊢) <;> omega)) | fail)
          all_goals (first | with_reducible rfl | (exfalso; ((try simp only [inB_t, inB_f, i_lt, i_le, i_eq, ne_eq, Bool.not_eq_true, Bool.not_eq_false, hpB, decide_eq_true_eq, decide_eq_false_iff_not, li_0, li_1, li_2, li_3, li_4, li_5, li_6, li_7, li_8, li_9, li_10, li_20, li_40, li_99, li_100, li_255, li_899, li_999, li_m1, li_m2, li_m3, li_m4, li_m11, li_m12, li_m13, li_m14, li_m100] at h9 ⊢) <;> omega)))) h hg)

def CpI (k : Nat) (A B : MM) : Prop := (∀ j, j < k → B 9 j = A 5 j) ∧ ∀ a b, a ≠ 9 → B a b = A a b
def CpJ (k : Nat) (A B : MM) : Prop := (∀ j, j < 12 → B 9 j = A 5 j) ∧ (∀ j, j < k → B 10 j = A 6 j ∧ B 11 j = A 7 j) ∧ ∀ a b, a ≠ 9 → a ≠ 10 → a ≠ 11 → B a b = A a b
def CpK (k : Nat) (A B : MM) : Prop := (∀ j, j < k → B 5 j = A 9 j) ∧ ∀ a b, a ≠ 5 → B a b = A a b
def CpL (k : Nat) (A B : MM) : Prop := (∀ j, j < 12 → B 5 j = A 9 j) ∧ (∀ j, j < k → B 6 j = A 10 j ∧ B 7 j = A 11 j) ∧ ∀ a b, a ≠ 5 → a ≠ 6 → a ≠ 7 → B a b = A a b
theorem rr_image2 {σ : SV} {M N : MM} (h : RR σ M) (e : CpJ 48 M N) : RR (setK σ (some (sV σ))) (mu (mu (mu N 0 33 (nI (vN (sV σ)))) 0 34 (vD (sV σ))) 0 35 (nI (vR (sV σ)))) := by
  obtain ⟨e1, e2, e3⟩ := e
  have en : ∀ a b, (a ≠ 0 ∨ b < 33 ∨ 35 < b) → mu (mu (mu N 0 33 (nI (vN (sV σ)))) 0 34 (vD (sV σ))) 0 35 (nI (vR (sV σ))) a b = N a b := fun a b g => by
    rw [mu_at, if_neg (by omega), mu_at, if_neg (by omega), mu_at, if_neg (by omega)]
  refine rr_image h (fun j hj => (en _ _ (by omega)).trans (e1 j hj)) (fun j hj => ⟨(en _ _ (by omega)).trans (e2 j hj).1, (en _ _ (by omega)).trans (e2 j hj).2⟩) ?_ ?_ (mu_s _ _ _ _) (fun a b h9 h10 h11 g => (en _ _ g).trans (e3 a b h9 h10 h11))
  · rw [mu_k _ _ _ _ (by decide), mu_k _ _ _ _ (by decide), mu_s]
  · rw [mu_k _ _ _ _ (by decide), mu_s]
theorem rr_back2 {σ : SV} {M N : MM} {u : WV} (h : RR σ M) (hu : sK σ = some u) (e : CpL 48 M N) : RR (setV σ u) (mu (mu (mu N 0 12 (nI (vN u))) 0 7 (vD u)) 0 4 (nI (vR u))) := by
  obtain ⟨e1, e2, e3⟩ := e
  have en : ∀ a b, (a ≠ 0 ∨ (b ≠ 4 ∧ b ≠ 7 ∧ b ≠ 12)) → mu (mu (mu N 0 12 (nI (vN u))) 0 7 (vD u)) 0 4 (nI (vR u)) a b = N a b := fun a b g => by
    rw [mu_at, if_neg (by omega), mu_at, if_neg (by omega), mu_at, if_neg (by omega)]
  refine rr_backr h hu (fun j hj => (en _ _ (by omega)).trans (e1 j hj)) (fun j hj => ⟨(en _ _ (by omega)).trans (e2 j hj).1, (en _ _ (by omega)).trans (e2 j hj).2⟩) ?_ ?_ (mu_s _ _ _ _) (fun a b h9 h10 h11 g => (en _ _ g).trans (e3 a b h9 h10 h11))
  · rw [mu_k _ _ _ _ (by decide), mu_k _ _ _ _ (by decide), mu_s]
  · rw [mu_k _ _ _ _ (by decide), mu_s]
set_option maxRecDepth 100000 in
set_option maxHeartbeats 800000 in
theorem c_X12_image (t : CT) {σ : SV} {M : MM} (h : RR σ M) (hg : M 0 28 = 0)  : XMet (wR t) yX12_image cX12_image 2 (some .int) 1 [.ref (t.1 0)] M (oQ (o_image σ)) := by
  refine x_met RX12 (by decide) rfl (Nat.le_of_ble_eq_true rfl) (fun κ C X E => ?_)
  refine x_L (L' := [(0, .ref (t.1 0))]) rfl ?_
  have hn6 := rr_n6 h
  have hN6 := h.1.1
  have hq := rr_q h
  have hB := h.1.2.1
  refine x_iconst (pc := 0) (v := 0) C dX12_image_0 rfl ?_
  refine x_istore_n (pc := 1) (L' := [(1, .int 0), (0, .ref (t.1 0))]) C dX12_image_1 (by decide) rfl ?_
  have loop2 : ∀ (k k' : Nat) (y : Int32) (Mx : MM) , k' + k = 12 → y = nI k' → CpI k' M Mx → XV κ (xP (wR t) Mx) 2 [(1, .int y), (0, .ref (t.1 0))] [] := by
    intro k
    induction k with
      | zero =>
        intro k' y Mx  hcnt ey eMx
        subst ey
        obtain rfl : 12 = k' := by omega
        refine x_iload_n (pc := 2) C 0 dX12_image_2 rfl ?_
        refine x_bipush (pc := 3) (v := (nI 12)) C dX12_image_3 (by decide) ?_
        refine x_icmp_ge_t (pc := 5) C 26 dX12_image_5 (by decide) (nI_le (by omega) (by decide)) ?_
        refine x_iconst (pc := 26) (v := 0) C dX12_image_26 rfl ?_
        refine x_istore_n (pc := 27) (L' := [(1, .int 0), (0, .ref (t.1 0))]) C dX12_image_27 (by decide) rfl ?_
        have loop28 : ∀ (k k' : Nat) (y : Int32) (My : MM) , k' + k = 48 → y = nI k' → CpJ k' M My → XV κ (xP (wR t) My) 28 [(1, .int y), (0, .ref (t.1 0))] [] := by
          intro k
          induction k with
            | zero =>
              intro k' y My  hcnt ey eMy
              subst ey
              obtain rfl : 48 = k' := by omega
              refine x_iload_n (pc := 28) C 0 dX12_image_28 rfl ?_
              refine x_bipush (pc := 29) (v := (nI 48)) C dX12_image_29 (by decide) ?_
              refine x_icmp_ge_t (pc := 31) C 64 dX12_image_31 (by decide) (nI_le (by omega) (by decide)) ?_
              refine x_aload_n (pc := 64) C 1 dX12_image_64 rfl ?_
              refine x_aload_n (pc := 65) C 1 dX12_image_65 rfl ?_
              refine g_M_many (pc := 66) C E q13_13 dX12_image_66 ?_
              refine x_eq (show My 0 12 = nI (vN (sV σ)) from ((eMy.2.2 _ _ (by decide) (by decide) (by decide)).trans (rr_size h))) ?_
              refine p_M_manyKept (pc := 69) C E q11_23 dX12_image_69 ?_
              refine x_aload_n (pc := 72) C 1 dX12_image_72 rfl ?_
              refine x_aload_n (pc := 73) C 1 dX12_image_73 rfl ?_
              refine g_M_dayNow (pc := 74) C E q13_19 dX12_image_74 ?_
              refine x_eq (show (mu My 0 33 (nI (vN (sV σ)))) 0 7 = vD (sV σ) from ((mu_k _ _ _ _ (by decide)).trans ((eMy.2.2 _ _ (by decide) (by decide) (by decide)).trans (rr_day h)))) ?_
              refine p_M_dayKept (pc := 77) C E q45_12 dX12_image_77 ?_
              refine x_aload_n (pc := 80) C 1 dX12_image_80 rfl ?_
              refine x_aload_n (pc := 81) C 1 dX12_image_81 rfl ?_
              refine g_M_rule (pc := 82) C E q15_2 dX12_image_82 ?_
              refine x_eq (show (mu (mu My 0 33 (nI (vN (sV σ)))) 0 34 (vD (sV σ))) 0 4 = nI (vR (sV σ)) from ((mu_k _ _ _ _ (by decide)).trans ((mu_k _ _ _ _ (by decide)).trans ((eMy.2.2 _ _ (by decide) (by decide) (by decide)).trans (rr_rule h))))) ?_
              refine p_M_ruleKept (pc := 85) C E q45_13 dX12_image_85 ?_
              refine x_aload_n (pc := 88) C 1 dX12_image_88 rfl ?_
              refine g_M_many (pc := 89) C E q13_13 dX12_image_89 ?_
              refine x_eq (show (mu (mu (mu My 0 33 (nI (vN (sV σ)))) 0 34 (vD (sV σ))) 0 35 (nI (vR (sV σ)))) 0 12 = nI (vN (sV σ)) from ((mu_k _ _ _ _ (by decide)).trans ((mu_k _ _ _ _ (by decide)).trans ((mu_k _ _ _ _ (by decide)).trans ((eMy.2.2 _ _ (by decide) (by decide) (by decide)).trans (rr_size h)))))) ?_
              exact x_iret (pc := 92) C X dX12_image_92 (foq rfl (rr_image2 h eMy) ((mu_k _ _ _ _ (by decide)).trans ((mu_k _ _ _ _ (by decide)).trans ((mu_k _ _ _ _ (by decide)).trans ((eMy.2.2 _ _ (by decide) (by decide) (by decide)).trans hg)))))
            | succ k ih =>
              intro k' y My  hcnt ey eMy
              subst ey
              have hi28 : k' < 48 := by omega
              refine x_iload_n (pc := 28) C 0 dX12_image_28 rfl ?_
              refine x_bipush (pc := 29) (v := (nI 48)) C dX12_image_29 (by decide) ?_
              refine x_icmp_ge_f (pc := 31) C 64 dX12_image_31 (by decide) (nI_ge (by omega) (by decide)) ?_
              refine x_aload_n (pc := 34) C 1 dX12_image_34 rfl ?_
              refine g_M_contentsKept (pc := 35) C E q11_21 dX12_image_35 ?_
              refine x_iload_n (pc := 38) C 0 dX12_image_38 rfl ?_
              refine x_aload_n (pc := 39) C 1 dX12_image_39 rfl ?_
              refine g_M_contents (pc := 40) C E q11_17 dX12_image_40 ?_
              refine x_iload_n (pc := 43) C 0 dX12_image_43 rfl ?_
              refine l_Rcontents (pc := 44) C E (by omega) dX12_image_44 ?_
              refine s_RcontentsKept (pc := 45) C E (by omega) dX12_image_45 ?_
              refine x_aload_n (pc := 46) C 1 dX12_image_46 rfl ?_
              refine g_M_stampsKept (pc := 47) C E q11_22 dX12_image_47 ?_
              refine x_iload_n (pc := 50) C 0 dX12_image_50 rfl ?_
              refine x_aload_n (pc := 51) C 1 dX12_image_51 rfl ?_
              refine g_M_stamps (pc := 52) C E q11_18 dX12_image_52 ?_
              refine x_iload_n (pc := 55) C 0 dX12_image_55 rfl ?_
              refine l_Rstamps (pc := 56) C E (by omega) dX12_image_56 ?_
              refine s_RstampsKept (pc := 57) C E (by omega) dX12_image_57 ?_
              refine x_iinc (pc := 58) (v := nI (k' + 1)) (L' := [(1, .int (nI (k' + 1))), (0, .ref (t.1 0))]) C 0 dX12_image_58 rfl (nI_1 _) (by decide) rfl ?_
              refine x_goto (pc := 61) C 28 dX12_image_61 (by decide) ?_
              refine x_sub [0, 1] rfl ?_
              refine ih (k' + 1) _ _ (by omega) rfl ⟨fun j hj => ?_, fun j hj => ?_, fun a b h9 h10 h11 => ?_⟩
              · rw [mu_n _ _ _ _ (by decide), mu_n _ _ _ _ (by decide)]; exact eMy.1 j hj
              · by_cases g : j = k'
                · subst g
                  exact ⟨by rw [mu_n _ _ _ _ (by decide), mu_s]; exact eMy.2.2 _ _ (by decide) (by decide) (by decide), by rw [mu_s, mu_n _ _ _ _ (by decide)]; exact eMy.2.2 _ _ (by decide) (by decide) (by decide)⟩
                · have := eMy.2.1 j (by omega)
                  exact ⟨by rw [mu_n _ _ _ _ (by decide), mu_k _ _ _ _ g]; exact this.1, by rw [mu_k _ _ _ _ g, mu_n _ _ _ _ (by decide)]; exact this.2⟩
              · rw [mu_n _ _ _ _ h11, mu_n _ _ _ _ h10]
                exact eMy.2.2 a b h9 h10 h11
        refine x_sub [0, 1] rfl ?_
        exact loop28 48 0 _ Mx (by omega) rfl ⟨eMx.1, fun j hj => absurd hj (Nat.not_lt_zero _), fun a b h _ _ => eMx.2 a b h⟩
      | succ k ih =>
        intro k' y Mx  hcnt ey eMx
        subst ey
        have hi2 : k' < 12 := by omega
        refine x_iload_n (pc := 2) C 0 dX12_image_2 rfl ?_
        refine x_bipush (pc := 3) (v := (nI 12)) C dX12_image_3 (by decide) ?_
        refine x_icmp_ge_f (pc := 5) C 26 dX12_image_5 (by decide) (nI_ge (by omega) (by decide)) ?_
        refine x_aload_n (pc := 8) C 1 dX12_image_8 rfl ?_
        refine g_M_rowsKept (pc := 9) C E q11_20 dX12_image_9 ?_
        refine x_iload_n (pc := 12) C 0 dX12_image_12 rfl ?_
        refine x_aload_n (pc := 13) C 1 dX12_image_13 rfl ?_
        refine g_M_rows (pc := 14) C E q11_16 dX12_image_14 ?_
        refine x_iload_n (pc := 17) C 0 dX12_image_17 rfl ?_
        refine l_Rrows (pc := 18) C E (by omega) dX12_image_18 ?_
        refine s_RrowsKept (pc := 19) C E (by omega) dX12_image_19 ?_
        refine x_iinc (pc := 20) (v := nI (k' + 1)) (L' := [(1, .int (nI (k' + 1))), (0, .ref (t.1 0))]) C 0 dX12_image_20 rfl (nI_1 _) (by decide) rfl ?_
        refine x_goto (pc := 23) C 2 dX12_image_23 (by decide) ?_
        refine x_sub [0, 1] rfl ?_
        refine ih (k' + 1) _ _ (by omega) rfl ⟨fun j hj => ?_, fun a b h9 => ?_⟩
        · by_cases g : j = k'
          · subst g
            rw [mu_s]; exact eMx.2 _ _ (by decide)
          · rw [mu_k _ _ _ _ g]; exact eMx.1 j (by omega)
        · rw [mu_n _ _ _ _ h9]; exact eMx.2 a b h9
  refine x_sub [0, 1] rfl ?_
  exact loop2 12 0 _ M (by omega) rfl ⟨fun j hj => absurd hj (Nat.not_lt_zero _), fun _ _ _ => rfl⟩

set_option maxRecDepth 100000 in
set_option maxHeartbeats 800000 in
theorem c_X12_back (t : CT) {σ : SV} {M : MM} (h : RR σ M) (hg : M 0 28 = 0)  : XMet (wR t) yX12_back cX12_back 2 (some .int) 1 [.ref (t.1 0)] M (oQ (o_back σ)) := by
  refine x_met RX12 (by decide) rfl (Nat.le_of_ble_eq_true rfl) (fun κ C X E => ?_)
  refine x_L (L' := [(0, .ref (t.1 0))]) rfl ?_
  have hn6 := rr_n6 h
  have hN6 := h.1.1
  have hq := rr_q h
  have hB := h.1.2.1
  refine x_aload_n (pc := 0) C 0 dX12_back_0 rfl ?_
  refine g_M_manyKept (pc := 1) C E q11_23 dX12_back_1 ?_
  cases hK : sK σ with
  | none =>
    refine x_eq (show M 0 33 = -1 from h.2.2.2.1.1 hK) ?_
    refine x_iconst (pc := 4) (v := (-1)) C dX12_back_4 rfl ?_
    refine x_icmp_ne_f (pc := 5) C 11 dX12_back_5 (by decide) rfl ?_
    refine x_bipush (pc := 8) (v := (-3)) C dX12_back_8 rfl ?_
    exact x_iret (pc := 10) C X dX12_back_10 (foq (by unfold o_back; rw [hK]) h hg)
  | some u =>
    have hu6 : vN u ≤ 6 := Nat.le_trans (h.1.2.2.2.1 u hK).2.1 hn6
    have hkr := h.2.2.2.1.2 u hK
    refine x_eq (show M 0 33 = nI (vN u) from hkr.1) ?_
    refine x_iconst (pc := 4) (v := (-1)) C dX12_back_4 rfl ?_
    refine x_icmp_ne_t (pc := 5) C 11 dX12_back_5 (by decide) (fun h => absurd (nI_toInt (n := vN u) (by omega)) (by rw [h]; simp)) ?_
    refine x_iconst (pc := 11) (v := 0) C dX12_back_11 rfl ?_
    refine x_istore_n (pc := 12) (L' := [(1, .int 0), (0, .ref (t.1 0))]) C dX12_back_12 (by decide) rfl ?_
    have loop13 : ∀ (k k' : Nat) (y : Int32) (Mx : MM) , k' + k = 12 → y = nI k' → CpK k' M Mx → XV κ (xP (wR t) Mx) 13 [(1, .int y), (0, .ref (t.1 0))] [] := by
      intro k
      induction k with
        | zero =>
          intro k' y Mx  hcnt ey eMx
          subst ey
          obtain rfl : 12 = k' := by omega
          refine x_iload_n (pc := 13) C 0 dX12_back_13 rfl ?_
          refine x_bipush (pc := 14) (v := (nI 12)) C dX12_back_14 (by decide) ?_
          refine x_icmp_ge_t (pc := 16) C 37 dX12_back_16 (by decide) (nI_le (by omega) (by decide)) ?_
          refine x_iconst (pc := 37) (v := 0) C dX12_back_37 rfl ?_
          refine x_istore_n (pc := 38) (L' := [(1, .int 0), (0, .ref (t.1 0))]) C dX12_back_38 (by decide) rfl ?_
          have loop39 : ∀ (k k' : Nat) (y : Int32) (My : MM) , k' + k = 48 → y = nI k' → CpL k' M My → XV κ (xP (wR t) My) 39 [(1, .int y), (0, .ref (t.1 0))] [] := by
            intro k
            induction k with
              | zero =>
                intro k' y My  hcnt ey eMy
                subst ey
                obtain rfl : 48 = k' := by omega
                refine x_iload_n (pc := 39) C 0 dX12_back_39 rfl ?_
                refine x_bipush (pc := 40) (v := (nI 48)) C dX12_back_40 (by decide) ?_
                refine x_icmp_ge_t (pc := 42) C 75 dX12_back_42 (by decide) (nI_le (by omega) (by decide)) ?_
                refine x_aload_n (pc := 75) C 1 dX12_back_75 rfl ?_
                refine x_aload_n (pc := 76) C 1 dX12_back_76 rfl ?_
                refine g_M_manyKept (pc := 77) C E q11_23 dX12_back_77 ?_
                refine x_eq (show My 0 33 = nI (vN u) from ((eMy.2.2 _ _ (by decide) (by decide) (by decide)).trans hkr.1)) ?_
                refine p_M_many (pc := 80) C E q13_13 dX12_back_80 ?_
                refine x_aload_n (pc := 83) C 1 dX12_back_83 rfl ?_
                refine x_aload_n (pc := 84) C 1 dX12_back_84 rfl ?_
                refine g_M_dayKept (pc := 85) C E q45_12 dX12_back_85 ?_
                refine x_eq (show (mu My 0 12 (nI (vN u))) 0 34 = vD u from ((mu_k _ _ _ _ (by decide)).trans ((eMy.2.2 _ _ (by decide) (by decide) (by decide)).trans hkr.2.1))) ?_
                refine p_M_dayNow (pc := 88) C E q13_19 dX12_back_88 ?_
                refine x_aload_n (pc := 91) C 1 dX12_back_91 rfl ?_
                refine x_aload_n (pc := 92) C 1 dX12_back_92 rfl ?_
                refine g_M_ruleKept (pc := 93) C E q45_13 dX12_back_93 ?_
                refine x_eq (show (mu (mu My 0 12 (nI (vN u))) 0 7 (vD u)) 0 35 = nI (vR u) from ((mu_k _ _ _ _ (by decide)).trans ((mu_k _ _ _ _ (by decide)).trans ((eMy.2.2 _ _ (by decide) (by decide) (by decide)).trans hkr.2.2.1)))) ?_
                refine p_M_rule (pc := 96) C E q15_2 dX12_back_96 ?_
                refine x_aload_n (pc := 99) C 1 dX12_back_99 rfl ?_
                refine g_M_many (pc := 100) C E q13_13 dX12_back_100 ?_
                refine x_eq (show (mu (mu (mu My 0 12 (nI (vN u))) 0 7 (vD u)) 0 4 (nI (vR u))) 0 12 = nI (vN u) from ((mu_k _ _ _ _ (by decide)).trans ((mu_k _ _ _ _ (by decide)).trans (mu_s _ _ _ _)))) ?_
                exact x_iret (pc := 103) C X dX12_back_103 (foq (by unfold o_back; rw [hK]) (rr_back2 h hK eMy) ((mu_k _ _ _ _ (by decide)).trans ((mu_k _ _ _ _ (by decide)).trans ((mu_k _ _ _ _ (by decide)).trans ((eMy.2.2 _ _ (by decide) (by decide) (by decide)).trans hg)))))
              | succ k ih =>
                intro k' y My  hcnt ey eMy
                subst ey
                have hi39 : k' < 48 := by omega
                refine x_iload_n (pc := 39) C 0 dX12_back_39 rfl ?_
                refine x_bipush (pc := 40) (v := (nI 48)) C dX12_back_40 (by decide) ?_
                refine x_icmp_ge_f (pc := 42) C 75 dX12_back_42 (by decide) (nI_ge (by omega) (by decide)) ?_
                refine x_aload_n (pc := 45) C 1 dX12_back_45 rfl ?_
                refine g_M_contents (pc := 46) C E q11_17 dX12_back_46 ?_
                refine x_iload_n (pc := 49) C 0 dX12_back_49 rfl ?_
                refine x_aload_n (pc := 50) C 1 dX12_back_50 rfl ?_
                refine g_M_contentsKept (pc := 51) C E q11_21 dX12_back_51 ?_
                refine x_iload_n (pc := 54) C 0 dX12_back_54 rfl ?_
                refine l_RcontentsKept (pc := 55) C E (by omega) dX12_back_55 ?_
                refine s_Rcontents (pc := 56) C E (by omega) dX12_back_56 ?_
                refine x_aload_n (pc := 57) C 1 dX12_back_57 rfl ?_
                refine g_M_stamps (pc := 58) C E q11_18 dX12_back_58 ?_
                refine x_iload_n (pc := 61) C 0 dX12_back_61 rfl ?_
                refine x_aload_n (pc := 62) C 1 dX12_back_62 rfl ?_
                refine g_M_stampsKept (pc := 63) C E q11_22 dX12_back_63 ?_
                refine x_iload_n (pc := 66) C 0 dX12_back_66 rfl ?_
                refine l_RstampsKept (pc := 67) C E (by omega) dX12_back_67 ?_
                refine s_Rstamps (pc := 68) C E (by omega) dX12_back_68 ?_
                refine x_iinc (pc := 69) (v := nI (k' + 1)) (L' := [(1, .int (nI (k' + 1))), (0, .ref (t.1 0))]) C 0 dX12_back_69 rfl (nI_1 _) (by decide) rfl ?_
                refine x_goto (pc := 72) C 39 dX12_back_72 (by decide) ?_
                refine x_sub [0, 1] rfl ?_
                refine ih (k' + 1) _ _ (by omega) rfl ⟨fun j hj => ?_, fun j hj => ?_, fun a b h9 h10 h11 => ?_⟩
                · rw [mu_n _ _ _ _ (by decide), mu_n _ _ _ _ (by decide)]; exact eMy.1 j hj
                · by_cases g : j = k'
                  · subst g
                    exact ⟨by rw [mu_n _ _ _ _ (by decide), mu_s]; exact eMy.2.2 _ _ (by decide) (by decide) (by decide), by rw [mu_s, mu_n _ _ _ _ (by decide)]; exact eMy.2.2 _ _ (by decide) (by decide) (by decide)⟩
                  · have := eMy.2.1 j (by omega)
                    exact ⟨by rw [mu_n _ _ _ _ (by decide), mu_k _ _ _ _ g]; exact this.1, by rw [mu_k _ _ _ _ g, mu_n _ _ _ _ (by decide)]; exact this.2⟩
                · rw [mu_n _ _ _ _ h11, mu_n _ _ _ _ h10]
                  exact eMy.2.2 a b h9 h10 h11
          refine x_sub [0, 1] rfl ?_
          exact loop39 48 0 _ Mx (by omega) rfl ⟨eMx.1, fun j hj => absurd hj (Nat.not_lt_zero _), fun a b h _ _ => eMx.2 a b h⟩
        | succ k ih =>
          intro k' y Mx  hcnt ey eMx
          subst ey
          have hi13 : k' < 12 := by omega
          refine x_iload_n (pc := 13) C 0 dX12_back_13 rfl ?_
          refine x_bipush (pc := 14) (v := (nI 12)) C dX12_back_14 (by decide) ?_
          refine x_icmp_ge_f (pc := 16) C 37 dX12_back_16 (by decide) (nI_ge (by omega) (by decide)) ?_
          refine x_aload_n (pc := 19) C 1 dX12_back_19 rfl ?_
          refine g_M_rows (pc := 20) C E q11_16 dX12_back_20 ?_
          refine x_iload_n (pc := 23) C 0 dX12_back_23 rfl ?_
          refine x_aload_n (pc := 24) C 1 dX12_back_24 rfl ?_
          refine g_M_rowsKept (pc := 25) C E q11_20 dX12_back_25 ?_
          refine x_iload_n (pc := 28) C 0 dX12_back_28 rfl ?_
          refine l_RrowsKept (pc := 29) C E (by omega) dX12_back_29 ?_
          refine s_Rrows (pc := 30) C E (by omega) dX12_back_30 ?_
          refine x_iinc (pc := 31) (v := nI (k' + 1)) (L' := [(1, .int (nI (k' + 1))), (0, .ref (t.1 0))]) C 0 dX12_back_31 rfl (nI_1 _) (by decide) rfl ?_
          refine x_goto (pc := 34) C 13 dX12_back_34 (by decide) ?_
          refine x_sub [0, 1] rfl ?_
          refine ih (k' + 1) _ _ (by omega) rfl ⟨fun j hj => ?_, fun a b h9 => ?_⟩
          · by_cases g : j = k'
            · subst g
              rw [mu_s]; exact eMx.2 _ _ (by decide)
            · rw [mu_k _ _ _ _ g]; exact eMx.1 j (by omega)
          · rw [mu_n _ _ _ _ h9]; exact eMx.2 a b h9
    refine x_sub [0, 1] rfl ?_
    exact loop13 12 0 _ M (by omega) rfl ⟨fun j hj => absurd hj (Nat.not_lt_zero _), fun _ _ _ => rfl⟩
  

