def a_tells (σ : SV) (s d a w : Int32) : Int32 :=
  if inB s 4 = false ∨ inB d (vN (sV σ)) = false ∨ inB w 5 = false then -2
  else if (w = 1 ∨ w = 2 ∨ w = 4) ∧ two σ a d = false then -2
  else if (sH σ (oN s)).1 = -1 then -11
  else if (sH σ (oN s)).2.1 ≠ 8 then -2
  else if w = 0 then otX (sV σ) (oN d) σ (oN s)
  else if w = 1 then mk (ktX σ (oN s) (oN a) (oN d)) 6
  else if w = 2 then mk (ntX σ (oN s) (oN a) (oN d)) 10
  else if w = 3 then mk (dtX σ (oN s) (oN d)) (vN (sV σ))
  else mk (ttX σ (oN s) (oN a) (oN d)) (sN σ)
set_option maxRecDepth 100000 in
set_option maxHeartbeats 800000 in
theorem c_X11_tells (t : CT) {σ : SV} {M : MM} (h : RC σ M)(x1 x2 x3 x4 : Int32) : XMet (wC t) yX11_tells cX11_tells 7 (some .int) 9 [.ref (t.1 0), .int x1, .int x2, .int x3, .int x4] M (aR σ (a_tells σ x1 x2 x3 x4)) := by
  refine x_met RX11 (by decide) rfl (Nat.le_of_ble_eq_true rfl) (fun κ C X E => ?_)
  refine x_L (L' := [(0, .ref (t.1 0)), (1, .int x1), (2, .int x2), (3, .int x3), (4, .int x4)]) rfl ?_
  have hn6 := rc_n6 h
  have hq6 := rc_q6 h
  have hq := rc_q h
  have hN6 := h.1.1
  have hB := h.1.2.1
  refine x_iload_n (pc := 0) C 1 dX11_tells_0 rfl ?_
  refine x_callS (pc := 1) C E [.int x1] [] (c_X11_isSheet t _ _) m_X11_isSheet q39_22 rfl (by decide) (Nat.le_of_ble_eq_true rfl) dX11_tells_1 rfl (k_I ?_)
  refine x_ifb_eq (pc := 4) C 29 dX11_tells_4 (by decide) (fun h4 => ?_) (fun h4 => ?_)
  · refine x_bipush (pc := 29) (v := (-2)) C dX11_tells_29 rfl ?_
    exact x_iret (pc := 31) C X dX11_tells_31 (fia (by
          unfold a_tells
          repeat (first | with_reducible rfl | (refine (if_pos ?_).trans ?_; ((try simp only [inB_t, inB_f, i_lt, i_le, i_eq, ne_eq, Bool.not_eq_true, Bool.not_eq_false, hpB, decide_eq_true_eq, decide_eq_false_iff_not, li_0, li_1, li_2, li_3, li_4, li_5, li_6, li_7, li_8, li_9, li_10, li_20, li_40, li_99, li_100, li_255, li_899, li_999, li_m1, li_m2, li_m3, li_m4, li_m11, li_m12, li_m13, li_m14, li_m100] at h4 ⊢) <;> omega)) | (refine (if_neg ?_).trans ?_; ((try simp only [inB_t, inB_f, i_lt, i_le, i_eq, ne_eq, Bool.not_eq_true, Bool.not_eq_false, hpB, decide_eq_true_eq, decide_eq_false_iff_not, li_0, li_1, li_2, li_3, li_4, li_5, li_6, li_7, li_8, li_9, li_10, li_20, li_40, li_99, li_100, li_255, li_899, li_999, li_m1, li_m2, li_m3, li_m4, li_m11, li_m12, li_m13, li_m14, li_m100] at h4 ⊢) <;> omega)) | fail)
          all_goals (first | with_reducible rfl | (exfalso; ((try simp only [inB_t, inB_f, i_lt, i_le, i_eq, ne_eq, Bool.not_eq_true, Bool.not_eq_false, hpB, decide_eq_true_eq, decide_eq_false_iff_not, li_0, li_1, li_2, li_3, li_4, li_5, li_6, li_7, li_8, li_9, li_10, li_20, li_40, li_99, li_100, li_255, li_899, li_999, li_m1, li_m2, li_m3, li_m4, li_m11, li_m12, li_m13, li_m14, li_m100] at h4 ⊢) <;> omega)))) h)
  · obtain ⟨s, hs, es⟩ := inB_of h4 (by omega)
    have hts := nI_toInt (n := s) (by omega)
    have hos := oN_nI (n := s) (by omega)
    subst es
    refine x_aload_n (pc := 7) C 0 dX11_tells_7 rfl ?_
    refine g_main_now (pc := 8) C E q2_1 dX11_tells_8 ?_
    refine x_iload_n (pc := 11) C 2 dX11_tells_11 rfl ?_
    refine x_callV (pc := 12) C E [.int x2] [] (w_has t (by decide : 0 < 3) h.2.1 _) m_X10_has q12_18 (xo_World (i := 0) (by omega)) rfl (by decide) (Nat.le_of_ble_eq_true rfl) dX11_tells_12 rfl (k_I ?_)
    refine x_ifb_eq (pc := 15) C 29 dX11_tells_15 (by decide) (fun h15 => ?_) (fun h15 => ?_)
    · refine x_bipush (pc := 29) (v := (-2)) C dX11_tells_29 rfl ?_
      exact x_iret (pc := 31) C X dX11_tells_31 (fia (by
            unfold a_tells
            simp only [hos]
            repeat (first | with_reducible rfl | (refine (if_pos ?_).trans ?_; ((try simp only [inB_t, inB_f, i_lt, i_le, i_eq, ne_eq, Bool.not_eq_true, Bool.not_eq_false, hpB, decide_eq_true_eq, decide_eq_false_iff_not, li_0, li_1, li_2, li_3, li_4, li_5, li_6, li_7, li_8, li_9, li_10, li_20, li_40, li_99, li_100, li_255, li_899, li_999, li_m1, li_m2, li_m3, li_m4, li_m11, li_m12, li_m13, li_m14, li_m100] at h4 hts h15 ⊢) <;> omega)) | (refine (if_neg ?_).trans ?_; ((try simp only [inB_t, inB_f, i_lt, i_le, i_eq, ne_eq, Bool.not_eq_true, Bool.not_eq_false, hpB, decide_eq_true_eq, decide_eq_false_iff_not, li_0, li_1, li_2, li_3, li_4, li_5, li_6, li_7, li_8, li_9, li_10, li_20, li_40, li_99, li_100, li_255, li_899, li_999, li_m1, li_m2, li_m3, li_m4, li_m11, li_m12, li_m13, li_m14, li_m100] at h4 hts h15 ⊢) <;> omega)) | fail)
            all_goals (first | with_reducible rfl | (exfalso; ((try simp only [inB_t, inB_f, i_lt, i_le, i_eq, ne_eq, Bool.not_eq_true, Bool.not_eq_false, hpB, decide_eq_true_eq, decide_eq_false_iff_not, li_0, li_1, li_2, li_3, li_4, li_5, li_6, li_7, li_8, li_9, li_10, li_20, li_40, li_99, li_100, li_255, li_899, li_999, li_m1, li_m2, li_m3, li_m4, li_m11, li_m12, li_m13, li_m14, li_m100] at h4 hts h15 ⊢) <;> omega)))) h)
    · obtain ⟨d, hd, ed⟩ := inB_of h15 (by omega)
      have htd := nI_toInt (n := d) (by omega)
      have hod := oN_nI (n := d) (by omega)
      subst ed
      refine x_iload (pc := 18) C 4 dX11_tells_18 rfl ?_
      refine x_if_lt (pc := 20) C 29 dX11_tells_20 (by decide) (fun h20 => ?_) (fun h20 => ?_)
      · refine x_bipush (pc := 29) (v := (-2)) C dX11_tells_29 rfl ?_
        exact x_iret (pc := 31) C X dX11_tells_31 (fia (by
              unfold a_tells
              simp only [hos, hod]
              repeat (first | with_reducible rfl | (refine (if_pos ?_).trans ?_; ((try simp only [inB_t, inB_f, i_lt, i_le, i_eq, ne_eq, Bool.not_eq_true, Bool.not_eq_false, hpB, decide_eq_true_eq, decide_eq_false_iff_not, li_0, li_1, li_2, li_3, li_4, li_5, li_6, li_7, li_8, li_9, li_10, li_20, li_40, li_99, li_100, li_255, li_899, li_999, li_m1, li_m2, li_m3, li_m4, li_m11, li_m12, li_m13, li_m14, li_m100] at h4 hts h15 htd h20 ⊢) <;> omega)) | (refine (if_neg ?_).trans ?_; ((try simp only [inB_t, inB_f, i_lt, i_le, i_eq, ne_eq, Bool.not_eq_true, Bool.not_eq_false, hpB, decide_eq_true_eq, decide_eq_false_iff_not, li_0, li_1, li_2, li_3, li_4, li_5, li_6, li_7, li_8, li_9, li_10, li_20, li_40, li_99, li_100, li_255, li_899, li_999, li_m1, li_m2, li_m3, li_m4, li_m11, li_m12, li_m13, li_m14, li_m100] at h4 hts h15 htd h20 ⊢) <;> omega)) | fail)
              all_goals (first | with_reducible rfl | (exfalso; ((try simp only [inB_t, inB_f, i_lt, i_le, i_eq, ne_eq, Bool.not_eq_true, Bool.not_eq_false, hpB, decide_eq_true_eq, decide_eq_false_iff_not, li_0, li_1, li_2, li_3, li_4, li_5, li_6, li_7, li_8, li_9, li_10, li_20, li_40, li_99, li_100, li_255, li_899, li_999, li_m1, li_m2, li_m3, li_m4, li_m11, li_m12, li_m13, li_m14, li_m100] at h4 hts h15 htd h20 ⊢) <;> omega)))) h)
      · refine x_iload (pc := 23) C 4 dX11_tells_23 rfl ?_
        refine x_iconst (pc := 25) (v := 4) C dX11_tells_25 rfl ?_
        refine x_icmp_le (pc := 26) C 32 dX11_tells_26 (by decide) (fun h26 => ?_) (fun h26 => ?_)
        · have h9 : x4.toInt = 0 ∨ x4.toInt = 1 ∨ x4.toInt = 2 ∨ x4.toInt = 3 ∨ x4.toInt = 4 := (by ((try simp only [inB_t, inB_f, i_lt, i_le, i_eq, ne_eq, Bool.not_eq_true, Bool.not_eq_false, hpB, decide_eq_true_eq, decide_eq_false_iff_not, li_0, li_1, li_2, li_3, li_4, li_5, li_6, li_7, li_8, li_9, li_10, li_20, li_40, li_99, li_100, li_255, li_899, li_999, li_m1, li_m2, li_m3, li_m4, li_m11, li_m12, li_m13, li_m14, li_m100] at h4 hts h15 htd h20 h26 ⊢) <;> omega))
          rcases h9 with h9 | h9 | h9 | h9 | h9
          · obtain rfl : x4 = 0 := i_eq.mpr h9
            refine x_iload (pc := 32) C 4 dX11_tells_32 rfl ?_
            refine x_iconst (pc := 34) (v := 1) C dX11_tells_34 rfl ?_
            refine x_icmp_eq_f (pc := 35) C 50 dX11_tells_35 (by decide) (by decide) ?_
            refine x_iload (pc := 38) C 4 dX11_tells_38 rfl ?_
            refine x_iconst (pc := 40) (v := 2) C dX11_tells_40 rfl ?_
            refine x_icmp_eq_f (pc := 41) C 50 dX11_tells_41 (by decide) (by decide) ?_
            refine x_iload (pc := 44) C 4 dX11_tells_44 rfl ?_
            refine x_iconst (pc := 46) (v := 4) C dX11_tells_46 rfl ?_
            refine x_icmp_ne_t (pc := 47) C 54 dX11_tells_47 (by decide) (by decide) ?_
            refine x_iconst (pc := 54) (v := 0) C dX11_tells_54 rfl ?_
            refine x_istore (pc := 55) (L' := [(5, .int 0), (0, .ref (t.1 0)), (1, .int (nI s)), (2, .int (nI d)), (3, .int x3), (4, .int 0)]) C dX11_tells_55 (by decide) rfl ?_
            refine x_iload (pc := 57) C 0 dX11_tells_57 rfl ?_
            refine x_if_eq_t (pc := 59) C 74 dX11_tells_59 (by decide) rfl ?_
            refine x_aload_n (pc := 74) C 1 dX11_tells_74 rfl ?_
            refine g_main_sheets (pc := 75) C E q1_17 dX11_tells_75 ?_
            refine x_iload_n (pc := 78) C 2 dX11_tells_78 rfl ?_
            refine l_sheets (pc := 79) C E (by omega) dX11_tells_79 ?_
            refine x_astore (pc := 80) (L' := [(6, .ref (t.1 (54 + 2 * s))), (5, .int 0), (0, .ref (t.1 0)), (1, .int (nI s)), (2, .int (nI d)), (3, .int x3), (4, .int 0)]) C dX11_tells_80 (by decide) rfl ?_
            refine x_aload (pc := 82) C 0 dX11_tells_82 rfl ?_
            refine x_callV (pc := 84) C E [] [] ( w_isMissing t h (by omega)) m_X8_isMissing q40_1 (xo_Sheet (by omega)) rfl (by decide) (Nat.le_of_ble_eq_true rfl) dX11_tells_84 rfl (k_I ?_)
            refine x_ifb_eq (pc := 87) C 93 dX11_tells_87 (by decide) (fun h87 => ?_) (fun h87 => ?_)
            · have hss : (sH σ s).1 ≠ -1 := of_decide_eq_false h87
              have hs40 := (h.1.2.2.2.2 s hs).1
              have hl8 := nI_toInt (n := (sH σ s).2.1) (by omega)
              refine x_aload (pc := 93) C 0 dX11_tells_93 rfl ?_
              refine g_Sheet_size (pc := 95) C E (by omega) q39_21 dX11_tells_95 ?_
              refine x_eq (show M (54 + 2 * s) 2 = nI (sH σ s).2.1 from rc_sz h hs hss) ?_
              refine x_bipush (pc := 98) (v := 8) C dX11_tells_98 rfl ?_
              refine x_icmp_eq (pc := 100) C 106 dX11_tells_100 (by decide) (fun h100 => ?_) (fun h100 => ?_)
              · have h8 : (sH σ s).2.1 = 8 := (by ((try simp only [inB_t, inB_f, i_lt, i_le, i_eq, ne_eq, Bool.not_eq_true, Bool.not_eq_false, hpB, decide_eq_true_eq, decide_eq_false_iff_not, li_0, li_1, li_2, li_3, li_4, li_5, li_6, li_7, li_8, li_9, li_10, li_20, li_40, li_99, li_100, li_255, li_899, li_999, li_m1, li_m2, li_m3, li_m4, li_m11, li_m12, li_m13, li_m14, li_m100] at h4 hts h15 htd h20 h26 h87 hl8 h100 ⊢) <;> omega))
                refine x_iload (pc := 106) C 6 dX11_tells_106 rfl ?_
                refine x_tableIn (pc := 108) C 140 dX11_tells_108 (by decide) (by decide) rfl (by decide) ?_
                refine x_aload_n (pc := 140) C 2 dX11_tells_140 rfl ?_
                refine g_main_now (pc := 141) C E q2_1 dX11_tells_141 ?_
                refine g_World_disks (pc := 144) C E (i := 0) (by omega) q12_15 dX11_tells_144 ?_
                refine x_iload_n (pc := 147) C 4 dX11_tells_147 rfl ?_
                refine l_disks (pc := 148) C E (i := 0) (by omega) (by omega) dX11_tells_148 ?_
                refine x_aload (pc := 149) C 0 dX11_tells_149 rfl ?_
                refine x_callS (pc := 151) C E [.ref (t.1 (62 + 3 * (6 * 0 + d))), .ref (t.1 (54 + 2 * s))] [] (c_X11_otherwise t _ (j := 6 * 0 + d) (by omega) hs (A := fun f => vC (sV σ) d f) (B := (sH σ s).2.2) (fun f hf => rc_ct h hd hf) (fun f hf => rc_row h hs hss (by omega))) m_X11_otherwise q41_6 rfl (by decide) (Nat.le_of_ble_eq_true rfl) dX11_tells_151 rfl (k_I ?_)
                refine x_eq (show _ = otX (sV σ) d σ s from rfl) ?_
                exact x_iret (pc := 154) C X dX11_tells_154 (fia (by
                      unfold a_tells
                      simp only [hos, hod]
                      repeat (first | with_reducible rfl | (refine (if_pos ?_).trans ?_; ((try simp only [inB_t, inB_f, i_lt, i_le, i_eq, ne_eq, Bool.not_eq_true, Bool.not_eq_false, hpB, decide_eq_true_eq, decide_eq_false_iff_not, li_0, li_1, li_2, li_3, li_4, li_5, li_6, li_7, li_8, li_9, li_10, li_20, li_40, li_99, li_100, li_255, li_899, li_999, li_m1, li_m2, li_m3, li_m4, li_m11, li_m12, li_m13, li_m14, li_m100] at h4 hts h15 htd h20 h26 h87 hl8 h100 ⊢) <;> omega)) | (refine (if_neg ?_).trans ?_; ((try simp only [inB_t, inB_f, i_lt, i_le, i_eq, ne_eq, Bool.not_eq_true, Bool.not_eq_false, hpB, decide_eq_true_eq, decide_eq_false_iff_not, li_0, li_1, li_2, li_3, li_4, li_5, li_6, li_7, li_8, li_9, li_10, li_20, li_40, li_99, li_100, li_255, li_899, li_999, li_m1, li_m2, li_m3, li_m4, li_m11, li_m12, li_m13, li_m14, li_m100] at h4 hts h15 htd h20 h26 h87 hl8 h100 ⊢) <;> omega)) | fail)
                      all_goals (first | with_reducible rfl | (exfalso; ((try simp only [inB_t, inB_f, i_lt, i_le, i_eq, ne_eq, Bool.not_eq_true, Bool.not_eq_false, hpB, decide_eq_true_eq, decide_eq_false_iff_not, li_0, li_1, li_2, li_3, li_4, li_5, li_6, li_7, li_8, li_9, li_10, li_20, li_40, li_99, li_100, li_255, li_899, li_999, li_m1, li_m2, li_m3, li_m4, li_m11, li_m12, li_m13, li_m14, li_m100] at h4 hts h15 htd h20 h26 h87 hl8 h100 ⊢) <;> omega)))) h)
              · refine x_bipush (pc := 103) (v := (-2)) C dX11_tells_103 rfl ?_
                exact x_iret (pc := 105) C X dX11_tells_105 (fia (by
                      unfold a_tells
                      simp only [hos, hod]
                      repeat (first | with_reducible rfl | (refine (if_pos ?_).trans ?_; ((try simp only [inB_t, inB_f, i_lt, i_le, i_eq, ne_eq, Bool.not_eq_true, Bool.not_eq_false, hpB, decide_eq_true_eq, decide_eq_false_iff_not, li_0, li_1, li_2, li_3, li_4, li_5, li_6, li_7, li_8, li_9, li_10, li_20, li_40, li_99, li_100, li_255, li_899, li_999, li_m1, li_m2, li_m3, li_m4, li_m11, li_m12, li_m13, li_m14, li_m100] at h4 hts h15 htd h20 h26 h87 hl8 h100 ⊢) <;> omega)) | (refine (if_neg ?_).trans ?_; ((try simp only [inB_t, inB_f, i_lt, i_le, i_eq, ne_eq, Bool.not_eq_true, Bool.not_eq_false, hpB, decide_eq_true_eq, decide_eq_false_iff_not, li_0, li_1, li_2, li_3, li_4, li_5, li_6, li_7, li_8, li_9, li_10, li_20, li_40, li_99, li_100, li_255, li_899, li_999, li_m1, li_m2, li_m3, li_m4, li_m11, li_m12, li_m13, li_m14, li_m100] at h4 hts h15 htd h20 h26 h87 hl8 h100 ⊢) <;> omega)) | fail)
                      all_goals (first | with_reducible rfl | (exfalso; ((try simp only [inB_t, inB_f, i_lt, i_le, i_eq, ne_eq, Bool.not_eq_true, Bool.not_eq_false, hpB, decide_eq_true_eq, decide_eq_false_iff_not, li_0, li_1, li_2, li_3, li_4, li_5, li_6, li_7, li_8, li_9, li_10, li_20, li_40, li_99, li_100, li_255, li_899, li_999, li_m1, li_m2, li_m3, li_m4, li_m11, li_m12, li_m13, li_m14, li_m100] at h4 hts h15 htd h20 h26 h87 hl8 h100 ⊢) <;> omega)))) h)
            · refine x_bipush (pc := 90) (v := (-11)) C dX11_tells_90 rfl ?_
              exact x_iret (pc := 92) C X dX11_tells_92 (fia (by
                    unfold a_tells
                    simp only [hos, hod]
                    repeat (first | with_reducible rfl | (refine (if_pos ?_).trans ?_; ((try simp only [inB_t, inB_f, i_lt, i_le, i_eq, ne_eq, Bool.not_eq_true, Bool.not_eq_false, hpB, decide_eq_true_eq, decide_eq_false_iff_not, li_0, li_1, li_2, li_3, li_4, li_5, li_6, li_7, li_8, li_9, li_10, li_20, li_40, li_99, li_100, li_255, li_899, li_999, li_m1, li_m2, li_m3, li_m4, li_m11, li_m12, li_m13, li_m14, li_m100] at h4 hts h15 htd h20 h26 h87 ⊢) <;> omega)) | (refine (if_neg ?_).trans ?_; ((try simp only [inB_t, inB_f, i_lt, i_le, i_eq, ne_eq, Bool.not_eq_true, Bool.not_eq_false, hpB, decide_eq_true_eq, decide_eq_false_iff_not, li_0, li_1, li_2, li_3, li_4, li_5, li_6, li_7, li_8, li_9, li_10, li_20, li_40, li_99, li_100, li_255, li_899, li_999, li_m1, li_m2, li_m3, li_m4, li_m11, li_m12, li_m13, li_m14, li_m100] at h4 hts h15 htd h20 h26 h87 ⊢) <;> omega)) | fail)
                    all_goals (first | with_reducible rfl | (exfalso; ((try simp only [inB_t, inB_f, i_lt, i_le, i_eq, ne_eq, Bool.not_eq_true, Bool.not_eq_false, hpB, decide_eq_true_eq, decide_eq_false_iff_not, li_0, li_1, li_2, li_3, li_4, li_5, li_6, li_7, li_8, li_9, li_10, li_20, li_40, li_99, li_100, li_255, li_899, li_999, li_m1, li_m2, li_m3, li_m4, li_m11, li_m12, li_m13, li_m14, li_m100] at h4 hts h15 htd h20 h26 h87 ⊢) <;> omega)))) h)
          · obtain rfl : x4 = 1 := i_eq.mpr h9
            refine x_iload (pc := 32) C 4 dX11_tells_32 rfl ?_
            refine x_iconst (pc := 34) (v := 1) C dX11_tells_34 rfl ?_
            refine x_icmp_eq_t (pc := 35) C 50 dX11_tells_35 (by decide) rfl ?_
            refine x_iconst (pc := 50) (v := 1) C dX11_tells_50 rfl ?_
            refine x_goto (pc := 51) C 55 dX11_tells_51 (by decide) ?_
            refine x_istore (pc := 55) (L' := [(5, .int 1), (0, .ref (t.1 0)), (1, .int (nI s)), (2, .int (nI d)), (3, .int x3), (4, .int 1)]) C dX11_tells_55 (by decide) rfl ?_
            refine x_iload (pc := 57) C 0 dX11_tells_57 rfl ?_
            refine x_if_eq_f (pc := 59) C 74 dX11_tells_59 (by decide) (by decide) ?_
            refine x_aload_n (pc := 62) C 1 dX11_tells_62 rfl ?_
            refine x_iload_n (pc := 63) C 4 dX11_tells_63 rfl ?_
            refine x_iload_n (pc := 64) C 3 dX11_tells_64 rfl ?_
            refine x_callV (pc := 65) C E [.int x3, .int (nI d)] [] ( c_X11_areTwo t h _ _) m_X11_areTwo q29_16 xo_main rfl (by decide) (Nat.le_of_ble_eq_true rfl) dX11_tells_65 rfl (k_I ?_)
            refine x_ifb_ne (pc := 68) C 74 dX11_tells_68 (by decide) (fun h68 => ?_) (fun h68 => ?_)
            · have htw := h68
              unfold two at htw
              rw [Bool.and_eq_true, Bool.and_eq_true] at htw
              obtain ⟨⟨hta, htb⟩, htc⟩ := htw
              obtain ⟨a, ha, ea⟩ := inB_of hta (by omega)
              have hta := nI_toInt (n := a) (by omega)
              have hoa := oN_nI (n := a) (by omega)
              subst ea
              refine x_aload_n (pc := 74) C 1 dX11_tells_74 rfl ?_
              refine g_main_sheets (pc := 75) C E q1_17 dX11_tells_75 ?_
              refine x_iload_n (pc := 78) C 2 dX11_tells_78 rfl ?_
              refine l_sheets (pc := 79) C E (by omega) dX11_tells_79 ?_
              refine x_astore (pc := 80) (L' := [(6, .ref (t.1 (54 + 2 * s))), (5, .int 1), (0, .ref (t.1 0)), (1, .int (nI s)), (2, .int (nI d)), (3, .int (nI a)), (4, .int 1)]) C dX11_tells_80 (by decide) rfl ?_
              refine x_aload (pc := 82) C 0 dX11_tells_82 rfl ?_
              refine x_callV (pc := 84) C E [] [] ( w_isMissing t h (by omega)) m_X8_isMissing q40_1 (xo_Sheet (by omega)) rfl (by decide) (Nat.le_of_ble_eq_true rfl) dX11_tells_84 rfl (k_I ?_)
              refine x_ifb_eq (pc := 87) C 93 dX11_tells_87 (by decide) (fun h87 => ?_) (fun h87 => ?_)
              · have hss : (sH σ s).1 ≠ -1 := of_decide_eq_false h87
                have hs40 := (h.1.2.2.2.2 s hs).1
                have hl8 := nI_toInt (n := (sH σ s).2.1) (by omega)
                refine x_aload (pc := 93) C 0 dX11_tells_93 rfl ?_
                refine g_Sheet_size (pc := 95) C E (by omega) q39_21 dX11_tells_95 ?_
                refine x_eq (show M (54 + 2 * s) 2 = nI (sH σ s).2.1 from rc_sz h hs hss) ?_
                refine x_bipush (pc := 98) (v := 8) C dX11_tells_98 rfl ?_
                refine x_icmp_eq (pc := 100) C 106 dX11_tells_100 (by decide) (fun h100 => ?_) (fun h100 => ?_)
                · have h8 : (sH σ s).2.1 = 8 := (by ((try simp only [inB_t, inB_f, i_lt, i_le, i_eq, ne_eq, Bool.not_eq_true, Bool.not_eq_false, hpB, decide_eq_true_eq, decide_eq_false_iff_not, li_0, li_1, li_2, li_3, li_4, li_5, li_6, li_7, li_8, li_9, li_10, li_20, li_40, li_99, li_100, li_255, li_899, li_999, li_m1, li_m2, li_m3, li_m4, li_m11, li_m12, li_m13, li_m14, li_m100] at h4 hts h15 htd h20 h26 h68 hta h87 hl8 h100 ⊢) <;> omega))
                  refine x_iload (pc := 106) C 6 dX11_tells_106 rfl ?_
                  refine x_tableIn (pc := 108) C 155 dX11_tells_108 (by decide) (by decide) rfl (by decide) ?_
                  refine x_aload_n (pc := 155) C 2 dX11_tells_155 rfl ?_
                  refine x_aload (pc := 156) C 0 dX11_tells_156 rfl ?_
                  refine x_iload_n (pc := 158) C 4 dX11_tells_158 rfl ?_
                  refine x_iload_n (pc := 159) C 5 dX11_tells_159 rfl ?_
                  refine x_callV (pc := 160) C E [.ref (t.1 (54 + 2 * s)), .int (nI d), .int (nI a)] [] (c_X11_kindsTold t h hs hss h8 hd ha) m_X11_kindsTold q41_9 xo_main rfl (by decide) (Nat.le_of_ble_eq_true rfl) dX11_tells_160 rfl (fun r M160 hc160 => ?_)
                  obtain ⟨rfl, hR160⟩ := hc160
                  show XV κ (xP (wC t) M160) 163 _ [.int (mk (ktX σ s a d) 6)]
                  exact x_iret (pc := 163) C X dX11_tells_163 (fia (by
                        unfold a_tells
                        simp only [hos, hod, hoa, h68, Bool.true_eq_false, and_false, if_false]
                        repeat (first | with_reducible rfl | (refine (if_pos ?_).trans ?_; ((try simp only [inB_t, inB_f, i_lt, i_le, i_eq, ne_eq, Bool.not_eq_true, Bool.not_eq_false, hpB, decide_eq_true_eq, decide_eq_false_iff_not, li_0, li_1, li_2, li_3, li_4, li_5, li_6, li_7, li_8, li_9, li_10, li_20, li_40, li_99, li_100, li_255, li_899, li_999, li_m1, li_m2, li_m3, li_m4, li_m11, li_m12, li_m13, li_m14, li_m100] at h4 hts h15 htd h20 h26 h68 hta h87 hl8 h100 ⊢) <;> omega)) | (refine (if_neg ?_).trans ?_; ((try simp only [inB_t, inB_f, i_lt, i_le, i_eq, ne_eq, Bool.not_eq_true, Bool.not_eq_false, hpB, decide_eq_true_eq, decide_eq_false_iff_not, li_0, li_1, li_2, li_3, li_4, li_5, li_6, li_7, li_8, li_9, li_10, li_20, li_40, li_99, li_100, li_255, li_899, li_999, li_m1, li_m2, li_m3, li_m4, li_m11, li_m12, li_m13, li_m14, li_m100] at h4 hts h15 htd h20 h26 h68 hta h87 hl8 h100 ⊢) <;> omega)) | fail)
                        all_goals (first | with_reducible rfl | (exfalso; ((try simp only [inB_t, inB_f, i_lt, i_le, i_eq, ne_eq, Bool.not_eq_true, Bool.not_eq_false, hpB, decide_eq_true_eq, decide_eq_false_iff_not, li_0, li_1, li_2, li_3, li_4, li_5, li_6, li_7, li_8, li_9, li_10, li_20, li_40, li_99, li_100, li_255, li_899, li_999, li_m1, li_m2, li_m3, li_m4, li_m11, li_m12, li_m13, li_m14, li_m100] at h4 hts h15 htd h20 h26 h68 hta h87 hl8 h100 ⊢) <;> omega)))) hR160)
                · refine x_bipush (pc := 103) (v := (-2)) C dX11_tells_103 rfl ?_
                  exact x_iret (pc := 105) C X dX11_tells_105 (fia (by
                        unfold a_tells
                        simp only [hos, hod, hoa, h68, Bool.true_eq_false, and_false, if_false]
                        repeat (first | with_reducible rfl | (refine (if_pos ?_).trans ?_; ((try simp only [inB_t, inB_f, i_lt, i_le, i_eq, ne_eq, Bool.not_eq_true, Bool.not_eq_false, hpB, decide_eq_true_eq, decide_eq_false_iff_not, li_0, li_1, li_2, li_3, li_4, li_5, li_6, li_7, li_8, li_9, li_10, li_20, li_40, li_99, li_100, li_255, li_899, li_999, li_m1, li_m2, li_m3, li_m4, li_m11, li_m12, li_m13, li_m14, li_m100] at h4 hts h15 htd h20 h26 h68 hta h87 hl8 h100 ⊢) <;> omega)) | (refine (if_neg ?_).trans ?_; ((try simp only [inB_t, inB_f, i_lt, i_le, i_eq, ne_eq, Bool.not_eq_true, Bool.not_eq_false, hpB, decide_eq_true_eq, decide_eq_false_iff_not, li_0, li_1, li_2, li_3, li_4, li_5, li_6, li_7, li_8, li_9, li_10, li_20, li_40, li_99, li_100, li_255, li_899, li_999, li_m1, li_m2, li_m3, li_m4, li_m11, li_m12, li_m13, li_m14, li_m100] at h4 hts h15 htd h20 h26 h68 hta h87 hl8 h100 ⊢) <;> omega)) | fail)
                        all_goals (first | with_reducible rfl | (exfalso; ((try simp only [inB_t, inB_f, i_lt, i_le, i_eq, ne_eq, Bool.not_eq_true, Bool.not_eq_false, hpB, decide_eq_true_eq, decide_eq_false_iff_not, li_0, li_1, li_2, li_3, li_4, li_5, li_6, li_7, li_8, li_9, li_10, li_20, li_40, li_99, li_100, li_255, li_899, li_999, li_m1, li_m2, li_m3, li_m4, li_m11, li_m12, li_m13, li_m14, li_m100] at h4 hts h15 htd h20 h26 h68 hta h87 hl8 h100 ⊢) <;> omega)))) h)
              · refine x_bipush (pc := 90) (v := (-11)) C dX11_tells_90 rfl ?_
                exact x_iret (pc := 92) C X dX11_tells_92 (fia (by
                      unfold a_tells
                      simp only [hos, hod, hoa, h68, Bool.true_eq_false, and_false, if_false]
                      repeat (first | with_reducible rfl | (refine (if_pos ?_).trans ?_; ((try simp only [inB_t, inB_f, i_lt, i_le, i_eq, ne_eq, Bool.not_eq_true, Bool.not_eq_false, hpB, decide_eq_true_eq, decide_eq_false_iff_not, li_0, li_1, li_2, li_3, li_4, li_5, li_6, li_7, li_8, li_9, li_10, li_20, li_40, li_99, li_100, li_255, li_899, li_999, li_m1, li_m2, li_m3, li_m4, li_m11, li_m12, li_m13, li_m14, li_m100] at h4 hts h15 htd h20 h26 h68 hta h87 ⊢) <;> omega)) | (refine (if_neg ?_).trans ?_; ((try simp only [inB_t, inB_f, i_lt, i_le, i_eq, ne_eq, Bool.not_eq_true, Bool.not_eq_false, hpB, decide_eq_true_eq, decide_eq_false_iff_not, li_0, li_1, li_2, li_3, li_4, li_5, li_6, li_7, li_8, li_9, li_10, li_20, li_40, li_99, li_100, li_255, li_899, li_999, li_m1, li_m2, li_m3, li_m4, li_m11, li_m12, li_m13, li_m14, li_m100] at h4 hts h15 htd h20 h26 h68 hta h87 ⊢) <;> omega)) | fail)
                      all_goals (first | with_reducible rfl | (exfalso; ((try simp only [inB_t, inB_f, i_lt, i_le, i_eq, ne_eq, Bool.not_eq_true, Bool.not_eq_false, hpB, decide_eq_true_eq, decide_eq_false_iff_not, li_0, li_1, li_2, li_3, li_4, li_5, li_6, li_7, li_8, li_9, li_10, li_20, li_40, li_99, li_100, li_255, li_899, li_999, li_m1, li_m2, li_m3, li_m4, li_m11, li_m12, li_m13, li_m14, li_m100] at h4 hts h15 htd h20 h26 h68 hta h87 ⊢) <;> omega)))) h)
            · refine x_bipush (pc := 71) (v := (-2)) C dX11_tells_71 rfl ?_
              exact x_iret (pc := 73) C X dX11_tells_73 (fia (by
                    unfold a_tells
                    simp only [hos, hod, h68, eq_self, and_true, true_or, or_true, if_true]
                    repeat (first | with_reducible rfl | (refine (if_pos ?_).trans ?_; ((try simp only [inB_t, inB_f, i_lt, i_le, i_eq, ne_eq, Bool.not_eq_true, Bool.not_eq_false, hpB, decide_eq_true_eq, decide_eq_false_iff_not, li_0, li_1, li_2, li_3, li_4, li_5, li_6, li_7, li_8, li_9, li_10, li_20, li_40, li_99, li_100, li_255, li_899, li_999, li_m1, li_m2, li_m3, li_m4, li_m11, li_m12, li_m13, li_m14, li_m100] at h4 hts h15 htd h20 h26 h68 ⊢) <;> omega)) | (refine (if_neg ?_).trans ?_; ((try simp only [inB_t, inB_f, i_lt, i_le, i_eq, ne_eq, Bool.not_eq_true, Bool.not_eq_false, hpB, decide_eq_true_eq, decide_eq_false_iff_not, li_0, li_1, li_2, li_3, li_4, li_5, li_6, li_7, li_8, li_9, li_10, li_20, li_40, li_99, li_100, li_255, li_899, li_999, li_m1, li_m2, li_m3, li_m4, li_m11, li_m12, li_m13, li_m14, li_m100] at h4 hts h15 htd h20 h26 h68 ⊢) <;> omega)) | fail)
                    all_goals (first | with_reducible rfl | (exfalso; ((try simp only [inB_t, inB_f, i_lt, i_le, i_eq, ne_eq, Bool.not_eq_true, Bool.not_eq_false, hpB, decide_eq_true_eq, decide_eq_false_iff_not, li_0, li_1, li_2, li_3, li_4, li_5, li_6, li_7, li_8, li_9, li_10, li_20, li_40, li_99, li_100, li_255, li_899, li_999, li_m1, li_m2, li_m3, li_m4, li_m11, li_m12, li_m13, li_m14, li_m100] at h4 hts h15 htd h20 h26 h68 ⊢) <;> omega)))) h)
          · obtain rfl : x4 = 2 := i_eq.mpr h9
            refine x_iload (pc := 32) C 4 dX11_tells_32 rfl ?_
            refine x_iconst (pc := 34) (v := 1) C dX11_tells_34 rfl ?_
            refine x_icmp_eq_f (pc := 35) C 50 dX11_tells_35 (by decide) (by decide) ?_
            refine x_iload (pc := 38) C 4 dX11_tells_38 rfl ?_
            refine x_iconst (pc := 40) (v := 2) C dX11_tells_40 rfl ?_
            refine x_icmp_eq_t (pc := 41) C 50 dX11_tells_41 (by decide) rfl ?_
            refine x_iconst (pc := 50) (v := 1) C dX11_tells_50 rfl ?_
            refine x_goto (pc := 51) C 55 dX11_tells_51 (by decide) ?_
            refine x_istore (pc := 55) (L' := [(5, .int 1), (0, .ref (t.1 0)), (1, .int (nI s)), (2, .int (nI d)), (3, .int x3), (4, .int 2)]) C dX11_tells_55 (by decide) rfl ?_
            refine x_iload (pc := 57) C 0 dX11_tells_57 rfl ?_
            refine x_if_eq_f (pc := 59) C 74 dX11_tells_59 (by decide) (by decide) ?_
            refine x_aload_n (pc := 62) C 1 dX11_tells_62 rfl ?_
            refine x_iload_n (pc := 63) C 4 dX11_tells_63 rfl ?_
            refine x_iload_n (pc := 64) C 3 dX11_tells_64 rfl ?_
            refine x_callV (pc := 65) C E [.int x3, .int (nI d)] [] ( c_X11_areTwo t h _ _) m_X11_areTwo q29_16 xo_main rfl (by decide) (Nat.le_of_ble_eq_true rfl) dX11_tells_65 rfl (k_I ?_)
            refine x_ifb_ne (pc := 68) C 74 dX11_tells_68 (by decide) (fun h68 => ?_) (fun h68 => ?_)
            · have htw := h68
              unfold two at htw
              rw [Bool.and_eq_true, Bool.and_eq_true] at htw
              obtain ⟨⟨hta, htb⟩, htc⟩ := htw
              obtain ⟨a, ha, ea⟩ := inB_of hta (by omega)
              have hta := nI_toInt (n := a) (by omega)
              have hoa := oN_nI (n := a) (by omega)
              subst ea
              refine x_aload_n (pc := 74) C 1 dX11_tells_74 rfl ?_
              refine g_main_sheets (pc := 75) C E q1_17 dX11_tells_75 ?_
              refine x_iload_n (pc := 78) C 2 dX11_tells_78 rfl ?_
              refine l_sheets (pc := 79) C E (by omega) dX11_tells_79 ?_
              refine x_astore (pc := 80) (L' := [(6, .ref (t.1 (54 + 2 * s))), (5, .int 1), (0, .ref (t.1 0)), (1, .int (nI s)), (2, .int (nI d)), (3, .int (nI a)), (4, .int 2)]) C dX11_tells_80 (by decide) rfl ?_
              refine x_aload (pc := 82) C 0 dX11_tells_82 rfl ?_
              refine x_callV (pc := 84) C E [] [] ( w_isMissing t h (by omega)) m_X8_isMissing q40_1 (xo_Sheet (by omega)) rfl (by decide) (Nat.le_of_ble_eq_true rfl) dX11_tells_84 rfl (k_I ?_)
              refine x_ifb_eq (pc := 87) C 93 dX11_tells_87 (by decide) (fun h87 => ?_) (fun h87 => ?_)
              · have hss : (sH σ s).1 ≠ -1 := of_decide_eq_false h87
                have hs40 := (h.1.2.2.2.2 s hs).1
                have hl8 := nI_toInt (n := (sH σ s).2.1) (by omega)
                refine x_aload (pc := 93) C 0 dX11_tells_93 rfl ?_
                refine g_Sheet_size (pc := 95) C E (by omega) q39_21 dX11_tells_95 ?_
                refine x_eq (show M (54 + 2 * s) 2 = nI (sH σ s).2.1 from rc_sz h hs hss) ?_
                refine x_bipush (pc := 98) (v := 8) C dX11_tells_98 rfl ?_
                refine x_icmp_eq (pc := 100) C 106 dX11_tells_100 (by decide) (fun h100 => ?_) (fun h100 => ?_)
                · have h8 : (sH σ s).2.1 = 8 := (by ((try simp only [inB_t, inB_f, i_lt, i_le, i_eq, ne_eq, Bool.not_eq_true, Bool.not_eq_false, hpB, decide_eq_true_eq, decide_eq_false_iff_not, li_0, li_1, li_2, li_3, li_4, li_5, li_6, li_7, li_8, li_9, li_10, li_20, li_40, li_99, li_100, li_255, li_899, li_999, li_m1, li_m2, li_m3, li_m4, li_m11, li_m12, li_m13, li_m14, li_m100] at h4 hts h15 htd h20 h26 h68 hta h87 hl8 h100 ⊢) <;> omega))
                  refine x_iload (pc := 106) C 6 dX11_tells_106 rfl ?_
                  refine x_tableIn (pc := 108) C 164 dX11_tells_108 (by decide) (by decide) rfl (by decide) ?_
                  refine x_aload_n (pc := 164) C 2 dX11_tells_164 rfl ?_
                  refine x_aload (pc := 165) C 0 dX11_tells_165 rfl ?_
                  refine x_iload_n (pc := 167) C 4 dX11_tells_167 rfl ?_
                  refine x_iload_n (pc := 168) C 5 dX11_tells_168 rfl ?_
                  refine x_callV (pc := 169) C E [.ref (t.1 (54 + 2 * s)), .int (nI d), .int (nI a)] [] (c_X11_numbersTold t h hs hss h8 hd ha) m_X11_numbersTold q41_17 xo_main rfl (by decide) (Nat.le_of_ble_eq_true rfl) dX11_tells_169 rfl (fun r M169 hc169 => ?_)
                  obtain ⟨rfl, hR169⟩ := hc169
                  show XV κ (xP (wC t) M169) 172 _ [.int (mk (ntX σ s a d) 10)]
                  exact x_iret (pc := 172) C X dX11_tells_172 (fia (by
                        unfold a_tells
                        simp only [hos, hod, hoa, h68, Bool.true_eq_false, and_false, if_false]
                        repeat (first | with_reducible rfl | (refine (if_pos ?_).trans ?_; ((try simp only [inB_t, inB_f, i_lt, i_le, i_eq, ne_eq, Bool.not_eq_true, Bool.not_eq_false, hpB, decide_eq_true_eq, decide_eq_false_iff_not, li_0, li_1, li_2, li_3, li_4, li_5, li_6, li_7, li_8, li_9, li_10, li_20, li_40, li_99, li_100, li_255, li_899, li_999, li_m1, li_m2, li_m3, li_m4, li_m11, li_m12, li_m13, li_m14, li_m100] at h4 hts h15 htd h20 h26 h68 hta h87 hl8 h100 ⊢) <;> omega)) | (refine (if_neg ?_).trans ?_; ((try simp only [inB_t, inB_f, i_lt, i_le, i_eq, ne_eq, Bool.not_eq_true, Bool.not_eq_false, hpB, decide_eq_true_eq, decide_eq_false_iff_not, li_0, li_1, li_2, li_3, li_4, li_5, li_6, li_7, li_8, li_9, li_10, li_20, li_40, li_99, li_100, li_255, li_899, li_999, li_m1, li_m2, li_m3, li_m4, li_m11, li_m12, li_m13, li_m14, li_m100] at h4 hts h15 htd h20 h26 h68 hta h87 hl8 h100 ⊢) <;> omega)) | fail)
                        all_goals (first | with_reducible rfl | (exfalso; ((try simp only [inB_t, inB_f, i_lt, i_le, i_eq, ne_eq, Bool.not_eq_true, Bool.not_eq_false, hpB, decide_eq_true_eq, decide_eq_false_iff_not, li_0, li_1, li_2, li_3, li_4, li_5, li_6, li_7, li_8, li_9, li_10, li_20, li_40, li_99, li_100, li_255, li_899, li_999, li_m1, li_m2, li_m3, li_m4, li_m11, li_m12, li_m13, li_m14, li_m100] at h4 hts h15 htd h20 h26 h68 hta h87 hl8 h100 ⊢) <;> omega)))) hR169)
                · refine x_bipush (pc := 103) (v := (-2)) C dX11_tells_103 rfl ?_
                  exact x_iret (pc := 105) C X dX11_tells_105 (fia (by
                        unfold a_tells
                        simp only [hos, hod, hoa, h68, Bool.true_eq_false, and_false, if_false]
                        repeat (first | with_reducible rfl | (refine (if_pos ?_).trans ?_; ((try simp only [inB_t, inB_f, i_lt, i_le, i_eq, ne_eq, Bool.not_eq_true, Bool.not_eq_false, hpB, decide_eq_true_eq, decide_eq_false_iff_not, li_0, li_1, li_2, li_3, li_4, li_5, li_6, li_7, li_8, li_9, li_10, li_20, li_40, li_99, li_100, li_255, li_899, li_999, li_m1, li_m2, li_m3, li_m4, li_m11, li_m12, li_m13, li_m14, li_m100] at h4 hts h15 htd h20 h26 h68 hta h87 hl8 h100 ⊢) <;> omega)) | (refine (if_neg ?_).trans ?_; ((try simp only [inB_t, inB_f, i_lt, i_le, i_eq, ne_eq, Bool.not_eq_true, Bool.not_eq_false, hpB, decide_eq_true_eq, decide_eq_false_iff_not, li_0, li_1, li_2, li_3, li_4, li_5, li_6, li_7, li_8, li_9, li_10, li_20, li_40, li_99, li_100, li_255, li_899, li_999, li_m1, li_m2, li_m3, li_m4, li_m11, li_m12, li_m13, li_m14, li_m100] at h4 hts h15 htd h20 h26 h68 hta h87 hl8 h100 ⊢) <;> omega)) | fail)
                        all_goals (first | with_reducible rfl | (exfalso; ((try simp only [inB_t, inB_f, i_lt, i_le, i_eq, ne_eq, Bool.not_eq_true, Bool.not_eq_false, hpB, decide_eq_true_eq, decide_eq_false_iff_not, li_0, li_1, li_2, li_3, li_4, li_5, li_6, li_7, li_8, li_9, li_10, li_20, li_40, li_99, li_100, li_255, li_899, li_999, li_m1, li_m2, li_m3, li_m4, li_m11, li_m12, li_m13, li_m14, li_m100] at h4 hts h15 htd h20 h26 h68 hta h87 hl8 h100 ⊢) <;> omega)))) h)
              · refine x_bipush (pc := 90) (v := (-11)) C dX11_tells_90 rfl ?_
                exact x_iret (pc := 92) C X dX11_tells_92 (fia (by
                      unfold a_tells
                      simp only [hos, hod, hoa, h68, Bool.true_eq_false, and_false, if_false]
                      repeat (first | with_reducible rfl | (refine (if_pos ?_).trans ?_; ((try simp only [inB_t, inB_f, i_lt, i_le, i_eq, ne_eq, Bool.not_eq_true, Bool.not_eq_false, hpB, decide_eq_true_eq, decide_eq_false_iff_not, li_0, li_1, li_2, li_3, li_4, li_5, li_6, li_7, li_8, li_9, li_10, li_20, li_40, li_99, li_100, li_255, li_899, li_999, li_m1, li_m2, li_m3, li_m4, li_m11, li_m12, li_m13, li_m14, li_m100] at h4 hts h15 htd h20 h26 h68 hta h87 ⊢) <;> omega)) | (refine (if_neg ?_).trans ?_; ((try simp only [inB_t, inB_f, i_lt, i_le, i_eq, ne_eq, Bool.not_eq_true, Bool.not_eq_false, hpB, decide_eq_true_eq, decide_eq_false_iff_not, li_0, li_1, li_2, li_3, li_4, li_5, li_6, li_7, li_8, li_9, li_10, li_20, li_40, li_99, li_100, li_255, li_899, li_999, li_m1, li_m2, li_m3, li_m4, li_m11, li_m12, li_m13, li_m14, li_m100] at h4 hts h15 htd h20 h26 h68 hta h87 ⊢) <;> omega)) | fail)
                      all_goals (first | with_reducible rfl | (exfalso; ((try simp only [inB_t, inB_f, i_lt, i_le, i_eq, ne_eq, Bool.not_eq_true, Bool.not_eq_false, hpB, decide_eq_true_eq, decide_eq_false_iff_not, li_0, li_1, li_2, li_3, li_4, li_5, li_6, li_7, li_8, li_9, li_10, li_20, li_40, li_99, li_100, li_255, li_899, li_999, li_m1, li_m2, li_m3, li_m4, li_m11, li_m12, li_m13, li_m14, li_m100] at h4 hts h15 htd h20 h26 h68 hta h87 ⊢) <;> omega)))) h)
            · refine x_bipush (pc := 71) (v := (-2)) C dX11_tells_71 rfl ?_
              exact x_iret (pc := 73) C X dX11_tells_73 (fia (by
                    unfold a_tells
                    simp only [hos, hod, h68, eq_self, and_true, true_or, or_true, if_true]
                    repeat (first | with_reducible rfl | (refine (if_pos ?_).trans ?_; ((try simp only [inB_t, inB_f, i_lt, i_le, i_eq, ne_eq, Bool.not_eq_true, Bool.not_eq_false, hpB, decide_eq_true_eq, decide_eq_false_iff_not, li_0, li_1, li_2, li_3, li_4, li_5, li_6, li_7, li_8, li_9, li_10, li_20, li_40, li_99, li_100, li_255, li_899, li_999, li_m1, li_m2, li_m3, li_m4, li_m11, li_m12, li_m13, li_m14, li_m100] at h4 hts h15 htd h20 h26 h68 ⊢) <;> omega)) | (refine (if_neg ?_).trans ?_; ((try simp only [inB_t, inB_f, i_lt, i_le, i_eq, ne_eq, Bool.not_eq_true, Bool.not_eq_false, hpB, decide_eq_true_eq, decide_eq_false_iff_not, li_0, li_1, li_2, li_3, li_4, li_5, li_6, li_7, li_8, li_9, li_10, li_20, li_40, li_99, li_100, li_255, li_899, li_999, li_m1, li_m2, li_m3, li_m4, li_m11, li_m12, li_m13, li_m14, li_m100] at h4 hts h15 htd h20 h26 h68 ⊢) <;> omega)) | fail)
                    all_goals (first | with_reducible rfl | (exfalso; ((try simp only [inB_t, inB_f, i_lt, i_le, i_eq, ne_eq, Bool.not_eq_true, Bool.not_eq_false, hpB, decide_eq_true_eq, decide_eq_false_iff_not, li_0, li_1, li_2, li_3, li_4, li_5, li_6, li_7, li_8, li_9, li_10, li_20, li_40, li_99, li_100, li_255, li_899, li_999, li_m1, li_m2, li_m3, li_m4, li_m11, li_m12, li_m13, li_m14, li_m100] at h4 hts h15 htd h20 h26 h68 ⊢) <;> omega)))) h)
          · obtain rfl : x4 = 3 := i_eq.mpr h9
            refine x_iload (pc := 32) C 4 dX11_tells_32 rfl ?_
            refine x_iconst (pc := 34) (v := 1) C dX11_tells_34 rfl ?_
            refine x_icmp_eq_f (pc := 35) C 50 dX11_tells_35 (by decide) (by decide) ?_
            refine x_iload (pc := 38) C 4 dX11_tells_38 rfl ?_
            refine x_iconst (pc := 40) (v := 2) C dX11_tells_40 rfl ?_
            refine x_icmp_eq_f (pc := 41) C 50 dX11_tells_41 (by decide) (by decide) ?_
            refine x_iload (pc := 44) C 4 dX11_tells_44 rfl ?_
            refine x_iconst (pc := 46) (v := 4) C dX11_tells_46 rfl ?_
            refine x_icmp_ne_t (pc := 47) C 54 dX11_tells_47 (by decide) (by decide) ?_
            refine x_iconst (pc := 54) (v := 0) C dX11_tells_54 rfl ?_
            refine x_istore (pc := 55) (L' := [(5, .int 0), (0, .ref (t.1 0)), (1, .int (nI s)), (2, .int (nI d)), (3, .int x3), (4, .int 3)]) C dX11_tells_55 (by decide) rfl ?_
            refine x_iload (pc := 57) C 0 dX11_tells_57 rfl ?_
            refine x_if_eq_t (pc := 59) C 74 dX11_tells_59 (by decide) rfl ?_
            refine x_aload_n (pc := 74) C 1 dX11_tells_74 rfl ?_
            refine g_main_sheets (pc := 75) C E q1_17 dX11_tells_75 ?_
            refine x_iload_n (pc := 78) C 2 dX11_tells_78 rfl ?_
            refine l_sheets (pc := 79) C E (by omega) dX11_tells_79 ?_
            refine x_astore (pc := 80) (L' := [(6, .ref (t.1 (54 + 2 * s))), (5, .int 0), (0, .ref (t.1 0)), (1, .int (nI s)), (2, .int (nI d)), (3, .int x3), (4, .int 3)]) C dX11_tells_80 (by decide) rfl ?_
            refine x_aload (pc := 82) C 0 dX11_tells_82 rfl ?_
            refine x_callV (pc := 84) C E [] [] ( w_isMissing t h (by omega)) m_X8_isMissing q40_1 (xo_Sheet (by omega)) rfl (by decide) (Nat.le_of_ble_eq_true rfl) dX11_tells_84 rfl (k_I ?_)
            refine x_ifb_eq (pc := 87) C 93 dX11_tells_87 (by decide) (fun h87 => ?_) (fun h87 => ?_)
            · have hss : (sH σ s).1 ≠ -1 := of_decide_eq_false h87
              have hs40 := (h.1.2.2.2.2 s hs).1
              have hl8 := nI_toInt (n := (sH σ s).2.1) (by omega)
              refine x_aload (pc := 93) C 0 dX11_tells_93 rfl ?_
              refine g_Sheet_size (pc := 95) C E (by omega) q39_21 dX11_tells_95 ?_
              refine x_eq (show M (54 + 2 * s) 2 = nI (sH σ s).2.1 from rc_sz h hs hss) ?_
              refine x_bipush (pc := 98) (v := 8) C dX11_tells_98 rfl ?_
              refine x_icmp_eq (pc := 100) C 106 dX11_tells_100 (by decide) (fun h100 => ?_) (fun h100 => ?_)
              · have h8 : (sH σ s).2.1 = 8 := (by ((try simp only [inB_t, inB_f, i_lt, i_le, i_eq, ne_eq, Bool.not_eq_true, Bool.not_eq_false, hpB, decide_eq_true_eq, decide_eq_false_iff_not, li_0, li_1, li_2, li_3, li_4, li_5, li_6, li_7, li_8, li_9, li_10, li_20, li_40, li_99, li_100, li_255, li_899, li_999, li_m1, li_m2, li_m3, li_m4, li_m11, li_m12, li_m13, li_m14, li_m100] at h4 hts h15 htd h20 h26 h87 hl8 h100 ⊢) <;> omega))
                refine x_iload (pc := 106) C 6 dX11_tells_106 rfl ?_
                refine x_tableIn (pc := 108) C 173 dX11_tells_108 (by decide) (by decide) rfl (by decide) ?_
                refine x_aload_n (pc := 173) C 2 dX11_tells_173 rfl ?_
                refine x_aload (pc := 174) C 0 dX11_tells_174 rfl ?_
                refine x_iload_n (pc := 176) C 4 dX11_tells_176 rfl ?_
                refine x_callV (pc := 177) C E [.ref (t.1 (54 + 2 * s)), .int (nI d)] [] (c_X11_disksTold t h hs hss h8 hd) m_X11_disksTold q41_21 xo_main rfl (by decide) (Nat.le_of_ble_eq_true rfl) dX11_tells_177 rfl (fun r M177 hc177 => ?_)
                obtain ⟨rfl, hR177⟩ := hc177
                show XV κ (xP (wC t) M177) 180 _ [.int (mk (dtX σ s d) (vN (sV σ)))]
                exact x_iret (pc := 180) C X dX11_tells_180 (fia (by
                      unfold a_tells
                      simp only [hos, hod]
                      repeat (first | with_reducible rfl | (refine (if_pos ?_).trans ?_; ((try simp only [inB_t, inB_f, i_lt, i_le, i_eq, ne_eq, Bool.not_eq_true, Bool.not_eq_false, hpB, decide_eq_true_eq, decide_eq_false_iff_not, li_0, li_1, li_2, li_3, li_4, li_5, li_6, li_7, li_8, li_9, li_10, li_20, li_40, li_99, li_100, li_255, li_899, li_999, li_m1, li_m2, li_m3, li_m4, li_m11, li_m12, li_m13, li_m14, li_m100] at h4 hts h15 htd h20 h26 h87 hl8 h100 ⊢) <;> omega)) | (refine (if_neg ?_).trans ?_; ((try simp only [inB_t, inB_f, i_lt, i_le, i_eq, ne_eq, Bool.not_eq_true, Bool.not_eq_false, hpB, decide_eq_true_eq, decide_eq_false_iff_not, li_0, li_1, li_2, li_3, li_4, li_5, li_6, li_7, li_8, li_9, li_10, li_20, li_40, li_99, li_100, li_255, li_899, li_999, li_m1, li_m2, li_m3, li_m4, li_m11, li_m12, li_m13, li_m14, li_m100] at h4 hts h15 htd h20 h26 h87 hl8 h100 ⊢) <;> omega)) | fail)
                      all_goals (first | with_reducible rfl | (exfalso; ((try simp only [inB_t, inB_f, i_lt, i_le, i_eq, ne_eq, Bool.not_eq_true, Bool.not_eq_false, hpB, decide_eq_true_eq, decide_eq_false_iff_not, li_0, li_1, li_2, li_3, li_4, li_5, li_6, li_7, li_8, li_9, li_10, li_20, li_40, li_99, li_100, li_255, li_899, li_999, li_m1, li_m2, li_m3, li_m4, li_m11, li_m12, li_m13, li_m14, li_m100] at h4 hts h15 htd h20 h26 h87 hl8 h100 ⊢) <;> omega)))) hR177)
              · refine x_bipush (pc := 103) (v := (-2)) C dX11_tells_103 rfl ?_
                exact x_iret (pc := 105) C X dX11_tells_105 (fia (by
                      unfold a_tells
                      simp only [hos, hod]
                      repeat (first | with_reducible rfl | (refine (if_pos ?_).trans ?_; ((try simp only [inB_t, inB_f, i_lt, i_le, i_eq, ne_eq, Bool.not_eq_true, Bool.not_eq_false, hpB, decide_eq_true_eq, decide_eq_false_iff_not, li_0, li_1, li_2, li_3, li_4, li_5, li_6, li_7, li_8, li_9, li_10, li_20, li_40, li_99, li_100, li_255, li_899, li_999, li_m1, li_m2, li_m3, li_m4, li_m11, li_m12, li_m13, li_m14, li_m100] at h4 hts h15 htd h20 h26 h87 hl8 h100 ⊢) <;> omega)) | (refine (if_neg ?_).trans ?_; ((try simp only [inB_t, inB_f, i_lt, i_le, i_eq, ne_eq, Bool.not_eq_true, Bool.not_eq_false, hpB, decide_eq_true_eq, decide_eq_false_iff_not, li_0, li_1, li_2, li_3, li_4, li_5, li_6, li_7, li_8, li_9, li_10, li_20, li_40, li_99, li_100, li_255, li_899, li_999, li_m1, li_m2, li_m3, li_m4, li_m11, li_m12, li_m13, li_m14, li_m100] at h4 hts h15 htd h20 h26 h87 hl8 h100 ⊢) <;> omega)) | fail)
                      all_goals (first | with_reducible rfl | (exfalso; ((try simp only [inB_t, inB_f, i_lt, i_le, i_eq, ne_eq, Bool.not_eq_true, Bool.not_eq_false, hpB, decide_eq_true_eq, decide_eq_false_iff_not, li_0, li_1, li_2, li_3, li_4, li_5, li_6, li_7, li_8, li_9, li_10, li_20, li_40, li_99, li_100, li_255, li_899, li_999, li_m1, li_m2, li_m3, li_m4, li_m11, li_m12, li_m13, li_m14, li_m100] at h4 hts h15 htd h20 h26 h87 hl8 h100 ⊢) <;> omega)))) h)
            · refine x_bipush (pc := 90) (v := (-11)) C dX11_tells_90 rfl ?_
              exact x_iret (pc := 92) C X dX11_tells_92 (fia (by
                    unfold a_tells
                    simp only [hos, hod]
                    repeat (first | with_reducible rfl | (refine (if_pos ?_).trans ?_; ((try simp only [inB_t, inB_f, i_lt, i_le, i_eq, ne_eq, Bool.not_eq_true, Bool.not_eq_false, hpB, decide_eq_true_eq, decide_eq_false_iff_not, li_0, li_1, li_2, li_3, li_4, li_5, li_6, li_7, li_8, li_9, li_10, li_20, li_40, li_99, li_100, li_255, li_899, li_999, li_m1, li_m2, li_m3, li_m4, li_m11, li_m12, li_m13, li_m14, li_m100] at h4 hts h15 htd h20 h26 h87 ⊢) <;> omega)) | (refine (if_neg ?_).trans ?_; ((try simp only [inB_t, inB_f, i_lt, i_le, i_eq, ne_eq, Bool.not_eq_true, Bool.not_eq_false, hpB, decide_eq_true_eq, decide_eq_false_iff_not, li_0, li_1, li_2, li_3, li_4, li_5, li_6, li_7, li_8, li_9, li_10, li_20, li_40, li_99, li_100, li_255, li_899, li_999, li_m1, li_m2, li_m3, li_m4, li_m11, li_m12, li_m13, li_m14, li_m100] at h4 hts h15 htd h20 h26 h87 ⊢) <;> omega)) | fail)
                    all_goals (first | with_reducible rfl | (exfalso; ((try simp only [inB_t, inB_f, i_lt, i_le, i_eq, ne_eq, Bool.not_eq_true, Bool.not_eq_false, hpB, decide_eq_true_eq, decide_eq_false_iff_not, li_0, li_1, li_2, li_3, li_4, li_5, li_6, li_7, li_8, li_9, li_10, li_20, li_40, li_99, li_100, li_255, li_899, li_999, li_m1, li_m2, li_m3, li_m4, li_m11, li_m12, li_m13, li_m14, li_m100] at h4 hts h15 htd h20 h26 h87 ⊢) <;> omega)))) h)
          · obtain rfl : x4 = 4 := i_eq.mpr h9
            refine x_iload (pc := 32) C 4 dX11_tells_32 rfl ?_
            refine x_iconst (pc := 34) (v := 1) C dX11_tells_34 rfl ?_
            refine x_icmp_eq_f (pc := 35) C 50 dX11_tells_35 (by decide) (by decide) ?_
            refine x_iload (pc := 38) C 4 dX11_tells_38 rfl ?_
            refine x_iconst (pc := 40) (v := 2) C dX11_tells_40 rfl ?_
            refine x_icmp_eq_f (pc := 41) C 50 dX11_tells_41 (by decide) (by decide) ?_
            refine x_iload (pc := 44) C 4 dX11_tells_44 rfl ?_
            refine x_iconst (pc := 46) (v := 4) C dX11_tells_46 rfl ?_
            refine x_icmp_ne_f (pc := 47) C 54 dX11_tells_47 (by decide) rfl ?_
            refine x_iconst (pc := 50) (v := 1) C dX11_tells_50 rfl ?_
            refine x_goto (pc := 51) C 55 dX11_tells_51 (by decide) ?_
            refine x_istore (pc := 55) (L' := [(5, .int 1), (0, .ref (t.1 0)), (1, .int (nI s)), (2, .int (nI d)), (3, .int x3), (4, .int 4)]) C dX11_tells_55 (by decide) rfl ?_
            refine x_iload (pc := 57) C 0 dX11_tells_57 rfl ?_
            refine x_if_eq_f (pc := 59) C 74 dX11_tells_59 (by decide) (by decide) ?_
            refine x_aload_n (pc := 62) C 1 dX11_tells_62 rfl ?_
            refine x_iload_n (pc := 63) C 4 dX11_tells_63 rfl ?_
            refine x_iload_n (pc := 64) C 3 dX11_tells_64 rfl ?_
            refine x_callV (pc := 65) C E [.int x3, .int (nI d)] [] ( c_X11_areTwo t h _ _) m_X11_areTwo q29_16 xo_main rfl (by decide) (Nat.le_of_ble_eq_true rfl) dX11_tells_65 rfl (k_I ?_)
            refine x_ifb_ne (pc := 68) C 74 dX11_tells_68 (by decide) (fun h68 => ?_) (fun h68 => ?_)
            · have htw := h68
              unfold two at htw
              rw [Bool.and_eq_true, Bool.and_eq_true] at htw
              obtain ⟨⟨hta, htb⟩, htc⟩ := htw
              obtain ⟨a, ha, ea⟩ := inB_of hta (by omega)
              have hta := nI_toInt (n := a) (by omega)
              have hoa := oN_nI (n := a) (by omega)
              subst ea
              refine x_aload_n (pc := 74) C 1 dX11_tells_74 rfl ?_
              refine g_main_sheets (pc := 75) C E q1_17 dX11_tells_75 ?_
              refine x_iload_n (pc := 78) C 2 dX11_tells_78 rfl ?_
              refine l_sheets (pc := 79) C E (by omega) dX11_tells_79 ?_
              refine x_astore (pc := 80) (L' := [(6, .ref (t.1 (54 + 2 * s))), (5, .int 1), (0, .ref (t.1 0)), (1, .int (nI s)), (2, .int (nI d)), (3, .int (nI a)), (4, .int 4)]) C dX11_tells_80 (by decide) rfl ?_
              refine x_aload (pc := 82) C 0 dX11_tells_82 rfl ?_
              refine x_callV (pc := 84) C E [] [] ( w_isMissing t h (by omega)) m_X8_isMissing q40_1 (xo_Sheet (by omega)) rfl (by decide) (Nat.le_of_ble_eq_true rfl) dX11_tells_84 rfl (k_I ?_)
              refine x_ifb_eq (pc := 87) C 93 dX11_tells_87 (by decide) (fun h87 => ?_) (fun h87 => ?_)
              · have hss : (sH σ s).1 ≠ -1 := of_decide_eq_false h87
                have hs40 := (h.1.2.2.2.2 s hs).1
                have hl8 := nI_toInt (n := (sH σ s).2.1) (by omega)
                refine x_aload (pc := 93) C 0 dX11_tells_93 rfl ?_
                refine g_Sheet_size (pc := 95) C E (by omega) q39_21 dX11_tells_95 ?_
                refine x_eq (show M (54 + 2 * s) 2 = nI (sH σ s).2.1 from rc_sz h hs hss) ?_
                refine x_bipush (pc := 98) (v := 8) C dX11_tells_98 rfl ?_
                refine x_icmp_eq (pc := 100) C 106 dX11_tells_100 (by decide) (fun h100 => ?_) (fun h100 => ?_)
                · have h8 : (sH σ s).2.1 = 8 := (by ((try simp only [inB_t, inB_f, i_lt, i_le, i_eq, ne_eq, Bool.not_eq_true, Bool.not_eq_false, hpB, decide_eq_true_eq, decide_eq_false_iff_not, li_0, li_1, li_2, li_3, li_4, li_5, li_6, li_7, li_8, li_9, li_10, li_20, li_40, li_99, li_100, li_255, li_899, li_999, li_m1, li_m2, li_m3, li_m4, li_m11, li_m12, li_m13, li_m14, li_m100] at h4 hts h15 htd h20 h26 h68 hta h87 hl8 h100 ⊢) <;> omega))
                  refine x_iload (pc := 106) C 6 dX11_tells_106 rfl ?_
                  refine x_tableOut (pc := 108) C 181 dX11_tells_108 (by decide) (by decide) ?_
                  refine x_aload_n (pc := 181) C 2 dX11_tells_181 rfl ?_
                  refine x_aload (pc := 182) C 0 dX11_tells_182 rfl ?_
                  refine x_iload_n (pc := 184) C 4 dX11_tells_184 rfl ?_
                  refine x_iload_n (pc := 185) C 5 dX11_tells_185 rfl ?_
                  refine x_callV (pc := 186) C E [.ref (t.1 (54 + 2 * s)), .int (nI d), .int (nI a)] [] (c_X11_textsTold t h hs hss h8 hd ha) m_X11_textsTold q42_1 xo_main rfl (by decide) (Nat.le_of_ble_eq_true rfl) dX11_tells_186 rfl (fun r M186 hc186 => ?_)
                  obtain ⟨rfl, hR186⟩ := hc186
                  show XV κ (xP (wC t) M186) 189 _ [.int (mk (ttX σ s a d) (sN σ))]
                  exact x_iret (pc := 189) C X dX11_tells_189 (fia (by
                        unfold a_tells
                        simp only [hos, hod, hoa, h68, Bool.true_eq_false, and_false, if_false]
                        repeat (first | with_reducible rfl | (refine (if_pos ?_).trans ?_; ((try simp only [inB_t, inB_f, i_lt, i_le, i_eq, ne_eq, Bool.not_eq_true, Bool.not_eq_false, hpB, decide_eq_true_eq, decide_eq_false_iff_not, li_0, li_1, li_2, li_3, li_4, li_5, li_6, li_7, li_8, li_9, li_10, li_20, li_40, li_99, li_100, li_255, li_899, li_999, li_m1, li_m2, li_m3, li_m4, li_m11, li_m12, li_m13, li_m14, li_m100] at h4 hts h15 htd h20 h26 h68 hta h87 hl8 h100 ⊢) <;> omega)) | (refine (if_neg ?_).trans ?_; ((try simp only [inB_t, inB_f, i_lt, i_le, i_eq, ne_eq, Bool.not_eq_true, Bool.not_eq_false, hpB, decide_eq_true_eq, decide_eq_false_iff_not, li_0, li_1, li_2, li_3, li_4, li_5, li_6, li_7, li_8, li_9, li_10, li_20, li_40, li_99, li_100, li_255, li_899, li_999, li_m1, li_m2, li_m3, li_m4, li_m11, li_m12, li_m13, li_m14, li_m100] at h4 hts h15 htd h20 h26 h68 hta h87 hl8 h100 ⊢) <;> omega)) | fail)
                        all_goals (first | with_reducible rfl | (exfalso; ((try simp only [inB_t, inB_f, i_lt, i_le, i_eq, ne_eq, Bool.not_eq_true, Bool.not_eq_false, hpB, decide_eq_true_eq, decide_eq_false_iff_not, li_0, li_1, li_2, li_3, li_4, li_5, li_6, li_7, li_8, li_9, li_10, li_20, li_40, li_99, li_100, li_255, li_899, li_999, li_m1, li_m2, li_m3, li_m4, li_m11, li_m12, li_m13, li_m14, li_m100] at h4 hts h15 htd h20 h26 h68 hta h87 hl8 h100 ⊢) <;> omega)))) hR186)
                · refine x_bipush (pc := 103) (v := (-2)) C dX11_tells_103 rfl ?_
                  exact x_iret (pc := 105) C X dX11_tells_105 (fia (by
                        unfold a_tells
                        simp only [hos, hod, hoa, h68, Bool.true_eq_false, and_false, if_false]
                        repeat (first | with_reducible rfl | (refine (if_pos ?_).trans ?_; ((try simp only [inB_t, inB_f, i_lt, i_le, i_eq, ne_eq, Bool.not_eq_true, Bool.not_eq_false, hpB, decide_eq_true_eq, decide_eq_false_iff_not, li_0, li_1, li_2, li_3, li_4, li_5, li_6, li_7, li_8, li_9, li_10, li_20, li_40, li_99, li_100, li_255, li_899, li_999, li_m1, li_m2, li_m3, li_m4, li_m11, li_m12, li_m13, li_m14, li_m100] at h4 hts h15 htd h20 h26 h68 hta h87 hl8 h100 ⊢) <;> omega)) | (refine (if_neg ?_).trans ?_; ((try simp only [inB_t, inB_f, i_lt, i_le, i_eq, ne_eq, Bool.not_eq_true, Bool.not_eq_false, hpB, decide_eq_true_eq, decide_eq_false_iff_not, li_0, li_1, li_2, li_3, li_4, li_5, li_6, li_7, li_8, li_9, li_10, li_20, li_40, li_99, li_100, li_255, li_899, li_999, li_m1, li_m2, li_m3, li_m4, li_m11, li_m12, li_m13, li_m14, li_m100] at h4 hts h15 htd h20 h26 h68 hta h87 hl8 h100 ⊢) <;> omega)) | fail)
                        all_goals (first | with_reducible rfl | (exfalso; ((try simp only [inB_t, inB_f, i_lt, i_le, i_eq, ne_eq, Bool.not_eq_true, Bool.not_eq_false, hpB, decide_eq_true_eq, decide_eq_false_iff_not, li_0, li_1, li_2, li_3, li_4, li_5, li_6, li_7, li_8, li_9, li_10, li_20, li_40, li_99, li_100, li_255, li_899, li_999, li_m1, li_m2, li_m3, li_m4, li_m11, li_m12, li_m13, li_m14, li_m100] at h4 hts h15 htd h20 h26 h68 hta h87 hl8 h100 ⊢) <;> omega)))) h)
              · refine x_bipush (pc := 90) (v := (-11)) C dX11_tells_90 rfl ?_
                exact x_iret (pc := 92) C X dX11_tells_92 (fia (by
                      unfold a_tells
                      simp only [hos, hod, hoa, h68, Bool.true_eq_false, and_false, if_false]
                      repeat (first | with_reducible rfl | (refine (if_pos ?_).trans ?_; ((try simp only [inB_t, inB_f, i_lt, i_le, i_eq, ne_eq, Bool.not_eq_true, Bool.not_eq_false, hpB, decide_eq_true_eq, decide_eq_false_iff_not, li_0, li_1, li_2, li_3, li_4, li_5, li_6, li_7, li_8, li_9, li_10, li_20, li_40, li_99, li_100, li_255, li_899, li_999, li_m1, li_m2, li_m3, li_m4, li_m11, li_m12, li_m13, li_m14, li_m100] at h4 hts h15 htd h20 h26 h68 hta h87 ⊢) <;> omega)) | (refine (if_neg ?_).trans ?_; ((try simp only [inB_t, inB_f, i_lt, i_le, i_eq, ne_eq, Bool.not_eq_true, Bool.not_eq_false, hpB, decide_eq_true_eq, decide_eq_false_iff_not, li_0, li_1, li_2, li_3, li_4, li_5, li_6, li_7, li_8, li_9, li_10, li_20, li_40, li_99, li_100, li_255, li_899, li_999, li_m1, li_m2, li_m3, li_m4, li_m11, li_m12, li_m13, li_m14, li_m100] at h4 hts h15 htd h20 h26 h68 hta h87 ⊢) <;> omega)) | fail)
                      all_goals (first | with_reducible rfl | (exfalso; ((try simp only [inB_t, inB_f, i_lt, i_le, i_eq, ne_eq, Bool.not_eq_true, Bool.not_eq_false, hpB, decide_eq_true_eq, decide_eq_false_iff_not, li_0, li_1, li_2, li_3, li_4, li_5, li_6, li_7, li_8, li_9, li_10, li_20, li_40, li_99, li_100, li_255, li_899, li_999, li_m1, li_m2, li_m3, li_m4, li_m11, li_m12, li_m13, li_m14, li_m100] at h4 hts h15 htd h20 h26 h68 hta h87 ⊢) <;> omega)))) h)
            · refine x_bipush (pc := 71) (v := (-2)) C dX11_tells_71 rfl ?_
              exact x_iret (pc := 73) C X dX11_tells_73 (fia (by
                    unfold a_tells
                    simp only [hos, hod, h68, eq_self, and_true, true_or, or_true, if_true]
                    repeat (first | with_reducible rfl | (refine (if_pos ?_).trans ?_; ((try simp only [inB_t, inB_f, i_lt, i_le, i_eq, ne_eq, Bool.not_eq_true, Bool.not_eq_false, hpB, decide_eq_true_eq, decide_eq_false_iff_not, li_0, li_1, li_2, li_3, li_4, li_5, li_6, li_7, li_8, li_9, li_10, li_20, li_40, li_99, li_100, li_255, li_899, li_999, li_m1, li_m2, li_m3, li_m4, li_m11, li_m12, li_m13, li_m14, li_m100] at h4 hts h15 htd h20 h26 h68 ⊢) <;> omega)) | (refine (if_neg ?_).trans ?_; ((try simp only [inB_t, inB_f, i_lt, i_le, i_eq, ne_eq, Bool.not_eq_true, Bool.not_eq_false, hpB, decide_eq_true_eq, decide_eq_false_iff_not, li_0, li_1, li_2, li_3, li_4, li_5, li_6, li_7, li_8, li_9, li_10, li_20, li_40, li_99, li_100, li_255, li_899, li_999, li_m1, li_m2, li_m3, li_m4, li_m11, li_m12, li_m13, li_m14, li_m100] at h4 hts h15 htd h20 h26 h68 ⊢) <;> omega)) | fail)
                    all_goals (first | with_reducible rfl | (exfalso; ((try simp only [inB_t, inB_f, i_lt, i_le, i_eq, ne_eq, Bool.not_eq_true, Bool.not_eq_false, hpB, decide_eq_true_eq, decide_eq_false_iff_not, li_0, li_1, li_2, li_3, li_4, li_5, li_6, li_7, li_8, li_9, li_10, li_20, li_40, li_99, li_100, li_255, li_899, li_999, li_m1, li_m2, li_m3, li_m4, li_m11, li_m12, li_m13, li_m14, li_m100] at h4 hts h15 htd h20 h26 h68 ⊢) <;> omega)))) h)
          
        · refine x_bipush (pc := 29) (v := (-2)) C dX11_tells_29 rfl ?_
          exact x_iret (pc := 31) C X dX11_tells_31 (fia (by
                unfold a_tells
                simp only [hos, hod]
                repeat (first | with_reducible rfl | (refine (if_pos ?_).trans ?_; ((try simp only [inB_t, inB_f, i_lt, i_le, i_eq, ne_eq, Bool.not_eq_true, Bool.not_eq_false, hpB, decide_eq_true_eq, decide_eq_false_iff_not, li_0, li_1, li_2, li_3, li_4, li_5, li_6, li_7, li_8, li_9, li_10, li_20, li_40, li_99, li_100, li_255, li_899, li_999, li_m1, li_m2, li_m3, li_m4, li_m11, li_m12, li_m13, li_m14, li_m100] at h4 hts h15 htd h20 h26 ⊢) <;> omega)) | (refine (if_neg ?_).trans ?_; ((try simp only [inB_t, inB_f, i_lt, i_le, i_eq, ne_eq, Bool.not_eq_true, Bool.not_eq_false, hpB, decide_eq_true_eq, decide_eq_false_iff_not, li_0, li_1, li_2, li_3, li_4, li_5, li_6, li_7, li_8, li_9, li_10, li_20, li_40, li_99, li_100, li_255, li_899, li_999, li_m1, li_m2, li_m3, li_m4, li_m11, li_m12, li_m13, li_m14, li_m100] at h4 hts h15 htd h20 h26 ⊢) <;> omega)) | fail)
                all_goals (first | with_reducible rfl | (exfalso; ((try simp only [inB_t, inB_f, i_lt, i_le, i_eq, ne_eq, Bool.not_eq_true, Bool.not_eq_false, hpB, decide_eq_true_eq, decide_eq_false_iff_not, li_0, li_1, li_2, li_3, li_4, li_5, li_6, li_7, li_8, li_9, li_10, li_20, li_40, li_99, li_100, li_255, li_899, li_999, li_m1, li_m2, li_m3, li_m4, li_m11, li_m12, li_m13, li_m14, li_m100] at h4 hts h15 htd h20 h26 ⊢) <;> omega)))) h)

