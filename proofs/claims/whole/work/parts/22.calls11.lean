theorem o_disk_H (σ : SV) (k x : Int32) : sH (o_disk σ k x).1 = sH σ := by
  unfold o_disk
  split
  · rfl
  · split
    · rfl
    · rfl
/-- disks brought in from a row, two numbers each -/
def dkF (τ : SV) (s : Nat) (at_ c : Int32) : Nat → SV × Int32
  | 0 => (τ, c)
  | k + 1 => if hpB at_ 2 (sH τ s).2.1 = false then (τ, -12)
    else dkF (o_disk τ ((sH τ s).2.2 (oN at_)) ((sH τ s).2.2 (oN at_ + 1))).1 s (at_ + 2) (if (o_disk τ ((sH τ s).2.2 (oN at_)) ((sH τ s).2.2 (oN at_ + 1))).2 < 0 then c else c + 1) k
def o_disks (σ : SV) (s x f n : Int32) : SV × Int32 :=
  if inB s 4 = false ∨ inB x 3 = false ∨ inB n 7 = false then (σ, -2)
  else if (sH σ (oN s)).1 = -1 then (σ, -11)
  else if (sH σ (oN s)).1 ≠ x then (σ, -13)
  else dkF σ (oN s) f 0 (oN n)
set_option maxRecDepth 100000 in
set_option maxHeartbeats 800000 in
theorem c_X11_disks (t : CT) {σ : SV} {M : MM} (h : RC σ M)(x1 x2 x3 x4 : Int32) : XMet (wC t) yX11_disks cX11_disks 9 (some .int) 6 [.ref (t.1 0), .int x1, .int x2, .int x3, .int x4] M (oR (o_disks σ x1 x2 x3 x4)) := by
  refine x_met RX11 (by decide) rfl (Nat.le_of_ble_eq_true rfl) (fun κ C X E => ?_)
  refine x_L (L' := [(0, .ref (t.1 0)), (1, .int x1), (2, .int x2), (3, .int x3), (4, .int x4)]) rfl ?_
  have hn6 := rc_n6 h
  have hq6 := rc_q6 h
  have hq := rc_q h
  have hN6 := h.1.1
  have hB := h.1.2.1
  refine x_iload_n (pc := 0) C 1 dX11_disks_0 rfl ?_
  refine x_callS (pc := 1) C E [.int x1] [] (c_X11_isSheet t _ _) m_X11_isSheet q39_22 rfl (by decide) (Nat.le_of_ble_eq_true rfl) dX11_disks_1 rfl (k_I ?_)
  refine x_ifb_eq (pc := 4) C 28 dX11_disks_4 (by decide) (fun h4 => ?_) (fun h4 => ?_)
  · refine x_bipush (pc := 28) (v := (-2)) C dX11_disks_28 rfl ?_
    exact x_iret (pc := 30) C X dX11_disks_30 (fin (by
          unfold o_disks
          repeat (first | with_reducible rfl | (refine (if_pos ?_).trans ?_; ((try simp only [inB_t, inB_f, i_lt, i_le, i_eq, ne_eq, Bool.not_eq_true, Bool.not_eq_false, hpB, decide_eq_true_eq, decide_eq_false_iff_not, li_0, li_1, li_2, li_3, li_4, li_5, li_6, li_7, li_8, li_9, li_10, li_20, li_40, li_99, li_100, li_255, li_899, li_999, li_m1, li_m2, li_m3, li_m4, li_m11, li_m12, li_m13, li_m14, li_m100] at h4 ⊢) <;> omega)) | (refine (if_neg ?_).trans ?_; ((try simp only [inB_t, inB_f, i_lt, i_le, i_eq, ne_eq, Bool.not_eq_true, Bool.not_eq_false, hpB, decide_eq_true_eq, decide_eq_false_iff_not, li_0, li_1, li_2, li_3, li_4, li_5, li_6, li_7, li_8, li_9, li_10, li_20, li_40, li_99, li_100, li_255, li_899, li_999, li_m1, li_m2, li_m3, li_m4, li_m11, li_m12, li_m13, li_m14, li_m100] at h4 ⊢) <;> omega)) | fail)
          all_goals (first | with_reducible rfl | (exfalso; ((try simp only [inB_t, inB_f, i_lt, i_le, i_eq, ne_eq, Bool.not_eq_true, Bool.not_eq_false, hpB, decide_eq_true_eq, decide_eq_false_iff_not, li_0, li_1, li_2, li_3, li_4, li_5, li_6, li_7, li_8, li_9, li_10, li_20, li_40, li_99, li_100, li_255, li_899, li_999, li_m1, li_m2, li_m3, li_m4, li_m11, li_m12, li_m13, li_m14, li_m100] at h4 ⊢) <;> omega)))) h)
  · obtain ⟨s, hs, es⟩ := inB_of h4 (by omega)
    have hts := nI_toInt (n := s) (by omega)
    have hos := oN_nI (n := s) (by omega)
    subst es
    refine x_iload_n (pc := 7) C 2 dX11_disks_7 rfl ?_
    refine x_if_lt (pc := 8) C 28 dX11_disks_8 (by decide) (fun h8 => ?_) (fun h8 => ?_)
    · refine x_bipush (pc := 28) (v := (-2)) C dX11_disks_28 rfl ?_
      exact x_iret (pc := 30) C X dX11_disks_30 (fin (by
            unfold o_disks
            simp only [hos]
            repeat (first | with_reducible rfl | (refine (if_pos ?_).trans ?_; ((try simp only [inB_t, inB_f, i_lt, i_le, i_eq, ne_eq, Bool.not_eq_true, Bool.not_eq_false, hpB, decide_eq_true_eq, decide_eq_false_iff_not, li_0, li_1, li_2, li_3, li_4, li_5, li_6, li_7, li_8, li_9, li_10, li_20, li_40, li_99, li_100, li_255, li_899, li_999, li_m1, li_m2, li_m3, li_m4, li_m11, li_m12, li_m13, li_m14, li_m100] at h4 hts h8 ⊢) <;> omega)) | (refine (if_neg ?_).trans ?_; ((try simp only [inB_t, inB_f, i_lt, i_le, i_eq, ne_eq, Bool.not_eq_true, Bool.not_eq_false, hpB, decide_eq_true_eq, decide_eq_false_iff_not, li_0, li_1, li_2, li_3, li_4, li_5, li_6, li_7, li_8, li_9, li_10, li_20, li_40, li_99, li_100, li_255, li_899, li_999, li_m1, li_m2, li_m3, li_m4, li_m11, li_m12, li_m13, li_m14, li_m100] at h4 hts h8 ⊢) <;> omega)) | fail)
            all_goals (first | with_reducible rfl | (exfalso; ((try simp only [inB_t, inB_f, i_lt, i_le, i_eq, ne_eq, Bool.not_eq_true, Bool.not_eq_false, hpB, decide_eq_true_eq, decide_eq_false_iff_not, li_0, li_1, li_2, li_3, li_4, li_5, li_6, li_7, li_8, li_9, li_10, li_20, li_40, li_99, li_100, li_255, li_899, li_999, li_m1, li_m2, li_m3, li_m4, li_m11, li_m12, li_m13, li_m14, li_m100] at h4 hts h8 ⊢) <;> omega)))) h)
    · refine x_iload_n (pc := 11) C 2 dX11_disks_11 rfl ?_
      refine x_iconst (pc := 12) (v := 2) C dX11_disks_12 rfl ?_
      refine x_icmp_gt (pc := 13) C 28 dX11_disks_13 (by decide) (fun h13 => ?_) (fun h13 => ?_)
      · refine x_bipush (pc := 28) (v := (-2)) C dX11_disks_28 rfl ?_
        exact x_iret (pc := 30) C X dX11_disks_30 (fin (by
              unfold o_disks
              simp only [hos]
              repeat (first | with_reducible rfl | (refine (if_pos ?_).trans ?_; ((try simp only [inB_t, inB_f, i_lt, i_le, i_eq, ne_eq, Bool.not_eq_true, Bool.not_eq_false, hpB, decide_eq_true_eq, decide_eq_false_iff_not, li_0, li_1, li_2, li_3, li_4, li_5, li_6, li_7, li_8, li_9, li_10, li_20, li_40, li_99, li_100, li_255, li_899, li_999, li_m1, li_m2, li_m3, li_m4, li_m11, li_m12, li_m13, li_m14, li_m100] at h4 hts h8 h13 ⊢) <;> omega)) | (refine (if_neg ?_).trans ?_; ((try simp only [inB_t, inB_f, i_lt, i_le, i_eq, ne_eq, Bool.not_eq_true, Bool.not_eq_false, hpB, decide_eq_true_eq, decide_eq_false_iff_not, li_0, li_1, li_2, li_3, li_4, li_5, li_6, li_7, li_8, li_9, li_10, li_20, li_40, li_99, li_100, li_255, li_899, li_999, li_m1, li_m2, li_m3, li_m4, li_m11, li_m12, li_m13, li_m14, li_m100] at h4 hts h8 h13 ⊢) <;> omega)) | fail)
              all_goals (first | with_reducible rfl | (exfalso; ((try simp only [inB_t, inB_f, i_lt, i_le, i_eq, ne_eq, Bool.not_eq_true, Bool.not_eq_false, hpB, decide_eq_true_eq, decide_eq_false_iff_not, li_0, li_1, li_2, li_3, li_4, li_5, li_6, li_7, li_8, li_9, li_10, li_20, li_40, li_99, li_100, li_255, li_899, li_999, li_m1, li_m2, li_m3, li_m4, li_m11, li_m12, li_m13, li_m14, li_m100] at h4 hts h8 h13 ⊢) <;> omega)))) h)
      · refine x_iload (pc := 16) C 4 dX11_disks_16 rfl ?_
        refine x_if_lt (pc := 18) C 28 dX11_disks_18 (by decide) (fun h18 => ?_) (fun h18 => ?_)
        · refine x_bipush (pc := 28) (v := (-2)) C dX11_disks_28 rfl ?_
          exact x_iret (pc := 30) C X dX11_disks_30 (fin (by
                unfold o_disks
                simp only [hos]
                repeat (first | with_reducible rfl | (refine (if_pos ?_).trans ?_; ((try simp only [inB_t, inB_f, i_lt, i_le, i_eq, ne_eq, Bool.not_eq_true, Bool.not_eq_false, hpB, decide_eq_true_eq, decide_eq_false_iff_not, li_0, li_1, li_2, li_3, li_4, li_5, li_6, li_7, li_8, li_9, li_10, li_20, li_40, li_99, li_100, li_255, li_899, li_999, li_m1, li_m2, li_m3, li_m4, li_m11, li_m12, li_m13, li_m14, li_m100] at h4 hts h8 h13 h18 ⊢) <;> omega)) | (refine (if_neg ?_).trans ?_; ((try simp only [inB_t, inB_f, i_lt, i_le, i_eq, ne_eq, Bool.not_eq_true, Bool.not_eq_false, hpB, decide_eq_true_eq, decide_eq_false_iff_not, li_0, li_1, li_2, li_3, li_4, li_5, li_6, li_7, li_8, li_9, li_10, li_20, li_40, li_99, li_100, li_255, li_899, li_999, li_m1, li_m2, li_m3, li_m4, li_m11, li_m12, li_m13, li_m14, li_m100] at h4 hts h8 h13 h18 ⊢) <;> omega)) | fail)
                all_goals (first | with_reducible rfl | (exfalso; ((try simp only [inB_t, inB_f, i_lt, i_le, i_eq, ne_eq, Bool.not_eq_true, Bool.not_eq_false, hpB, decide_eq_true_eq, decide_eq_false_iff_not, li_0, li_1, li_2, li_3, li_4, li_5, li_6, li_7, li_8, li_9, li_10, li_20, li_40, li_99, li_100, li_255, li_899, li_999, li_m1, li_m2, li_m3, li_m4, li_m11, li_m12, li_m13, li_m14, li_m100] at h4 hts h8 h13 h18 ⊢) <;> omega)))) h)
        · refine x_iload (pc := 21) C 4 dX11_disks_21 rfl ?_
          refine x_bipush (pc := 23) (v := 6) C dX11_disks_23 rfl ?_
          refine x_icmp_le (pc := 25) C 31 dX11_disks_25 (by decide) (fun h25 => ?_) (fun h25 => ?_)
          · have hk4 : inB x4 7 = true := (by ((try simp only [inB_t, inB_f, i_lt, i_le, i_eq, ne_eq, Bool.not_eq_true, Bool.not_eq_false, hpB, decide_eq_true_eq, decide_eq_false_iff_not, li_0, li_1, li_2, li_3, li_4, li_5, li_6, li_7, li_8, li_9, li_10, li_20, li_40, li_99, li_100, li_255, li_899, li_999, li_m1, li_m2, li_m3, li_m4, li_m11, li_m12, li_m13, li_m14, li_m100] at h4 hts h8 h13 h18 h25 ⊢) <;> omega))
            obtain ⟨n, hn, en⟩ := inB_of hk4 (by omega)
            have htn := nI_toInt (n := n) (by omega)
            have hon := oN_nI (n := n) (by omega)
            subst en
            refine x_aload_n (pc := 31) C 0 dX11_disks_31 rfl ?_
            refine g_main_sheets (pc := 32) C E q1_17 dX11_disks_32 ?_
            refine x_iload_n (pc := 35) C 1 dX11_disks_35 rfl ?_
            refine l_sheets (pc := 36) C E (by omega) dX11_disks_36 ?_
            refine x_astore (pc := 37) (L' := [(5, .ref (t.1 (54 + 2 * s))), (0, .ref (t.1 0)), (1, .int (nI s)), (2, .int x2), (3, .int x3), (4, .int (nI n))]) C dX11_disks_37 (by decide) rfl ?_
            refine x_aload (pc := 39) C 0 dX11_disks_39 rfl ?_
            refine x_callV (pc := 41) C E [] [] ( w_isMissing t h (by omega)) m_X8_isMissing q40_1 (xo_Sheet (by omega)) rfl (by decide) (Nat.le_of_ble_eq_true rfl) dX11_disks_41 rfl (k_I ?_)
            refine x_ifb_eq (pc := 44) C 50 dX11_disks_44 (by decide) (fun h44 => ?_) (fun h44 => ?_)
            · have hss : (sH σ s).1 ≠ -1 := of_decide_eq_false h44
              refine x_aload (pc := 50) C 0 dX11_disks_50 rfl ?_
              refine g_Sheet_sort (pc := 52) C E (by omega) q47_7 dX11_disks_52 ?_
              refine x_eq (show M (54 + 2 * s) 1 = (sH σ s).1 from rc_ss h (by omega)) ?_
              refine x_iload_n (pc := 55) C 3 dX11_disks_55 rfl ?_
              refine x_icmp_eq (pc := 56) C 62 dX11_disks_56 (by decide) (fun h56 => ?_) (fun h56 => ?_)
              · refine x_iconst (pc := 62) (v := 0) C dX11_disks_62 rfl ?_
                refine x_istore (pc := 63) (L' := [(6, .int 0), (5, .ref (t.1 (54 + 2 * s))), (0, .ref (t.1 0)), (1, .int (nI s)), (2, .int x2), (3, .int x3), (4, .int (nI n))]) C dX11_disks_63 (by decide) rfl ?_
                refine x_iload_n (pc := 65) C 5 dX11_disks_65 rfl ?_
                refine x_istore (pc := 66) (L' := [(7, .int x3), (6, .int 0), (5, .ref (t.1 (54 + 2 * s))), (0, .ref (t.1 0)), (1, .int (nI s)), (2, .int x2), (3, .int x3), (4, .int (nI n))]) C dX11_disks_66 (by decide) rfl ?_
                refine x_iconst (pc := 68) (v := (nI 0)) C dX11_disks_68 (by decide) ?_
                refine x_istore (pc := 69) (L' := [(8, .int (nI 0)), (7, .int x3), (6, .int 0), (5, .ref (t.1 (54 + 2 * s))), (0, .ref (t.1 0)), (1, .int (nI s)), (2, .int x2), (3, .int x3), (4, .int (nI n))]) C dX11_disks_69 (by decide) rfl ?_
                have loop71 : ∀ (k j : Nat) (y : Int32) (My : MM) (τ : SV) (c p : Int32), j + k = n → y = nI j → RC τ My → sH τ s = sH σ s → dkF τ s p c k = dkF σ s x3 0 n → XV κ (xP (wC t) My) 71 [(8, .int y), (7, .int p), (6, .int c), (5, .ref (t.1 (54 + 2 * s))), (0, .ref (t.1 0)), (1, .int (nI s)), (2, .int x2), (3, .int x3), (4, .int (nI n))] [] := by
                  intro k
                  induction k with
                    | zero =>
                      intro j y My τ c p hcnt ey eMy hst hg
                      subst ey
                      obtain rfl : n = j := by omega
                      refine x_iload (pc := 71) C 0 dX11_disks_71 rfl ?_
                      refine x_iload (pc := 73) C 8 dX11_disks_73 rfl ?_
                      refine x_icmp_ge_t (pc := 75) C 129 dX11_disks_75 (by decide) (nI_le (by omega) (by omega)) ?_
                      refine x_iload (pc := 129) C 2 dX11_disks_129 rfl ?_
                      exact x_iret (pc := 131) C X dX11_disks_131 (fin (by
                            unfold o_disks
                            simp only [hos, hon]
                            repeat (first | (refine (if_pos ?_).trans ?_; ((try simp only [inB_t, inB_f, i_lt, i_le, i_eq, ne_eq, Bool.not_eq_true, Bool.not_eq_false, hpB, decide_eq_true_eq, decide_eq_false_iff_not, li_0, li_1, li_2, li_3, li_4, li_5, li_6, li_7, li_8, li_9, li_10, li_20, li_40, li_99, li_100, li_255, li_899, li_999, li_m1, li_m2, li_m3, li_m4, li_m11, li_m12, li_m13, li_m14, li_m100] at h4 hts h8 h13 h18 h25 htn h44 h56 ⊢) <;> omega)) | (refine (if_neg ?_).trans ?_; ((try simp only [inB_t, inB_f, i_lt, i_le, i_eq, ne_eq, Bool.not_eq_true, Bool.not_eq_false, hpB, decide_eq_true_eq, decide_eq_false_iff_not, li_0, li_1, li_2, li_3, li_4, li_5, li_6, li_7, li_8, li_9, li_10, li_20, li_40, li_99, li_100, li_255, li_899, li_999, li_m1, li_m2, li_m3, li_m4, li_m11, li_m12, li_m13, li_m14, li_m100] at h4 hts h8 h13 h18 h25 htn h44 h56 ⊢) <;> omega)) | fail)
                            exact hg.symm.trans rfl) eMy)
                    | succ k ih =>
                      intro j y My τ c p hcnt ey eMy hst hg
                      subst ey
                      have hi71 : j < n := by omega
                      refine x_iload (pc := 71) C 0 dX11_disks_71 rfl ?_
                      refine x_iload (pc := 73) C 8 dX11_disks_73 rfl ?_
                      refine x_icmp_ge_f (pc := 75) C 129 dX11_disks_75 (by decide) (nI_ge (by omega) (by omega)) ?_
                      refine x_aload (pc := 78) C 3 dX11_disks_78 rfl ?_
                      refine x_iload (pc := 80) C 1 dX11_disks_80 rfl ?_
                      refine x_iconst (pc := 82) (v := 2) C dX11_disks_82 rfl ?_
                      refine x_callV (pc := 83) C E [.int p, .int 2] [] (c_X8_hasPart t _ hs (rc_sz eMy hs (hst.symm ▸ hss)) ((eMy.1.2.2.2.2 s hs).1) _ _) m_X8_hasPart q47_9 (xo_Sheet hs) rfl (by decide) (Nat.le_of_ble_eq_true rfl) dX11_disks_83 rfl (k_I ?_)
                      refine x_ifb_ne (pc := 86) C 92 dX11_disks_86 (by decide) (fun h86 => ?_) (fun h86 => ?_)
                      · have hp2 := of_decide_eq_true h86
                        have hs40 := (eMy.1.2.2.2.2 s hs).1
                        have hsm : (sH τ s).1 ≠ -1 := by rw [hst]; exact hss
                        have l2 : (2 : Int32).toInt = 2 := rfl
                        have ki : inB p 41 = true := inB_t.mpr (by omega)
                        obtain ⟨i, hi, ei⟩ := inB_of ki (by omega)
                        have hti := nI_toInt (n := i) (by omega)
                        have hoi := oN_nI (n := i) (by omega)
                        subst ei
                        rw [hti, l2] at hp2
                        refine x_aload_n (pc := 92) C 4 dX11_disks_92 rfl ?_
                        refine x_aload (pc := 93) C 3 dX11_disks_93 rfl ?_
                        refine g_Sheet_row (pc := 95) C E (by omega) q40_9 dX11_disks_95 ?_
                        refine x_iload (pc := 98) C 1 dX11_disks_98 rfl ?_
                        refine l_row (pc := 100) C E (by omega) (by omega) dX11_disks_100 ?_
                        refine x_eq (show My (55 + 2 * s) i = (sH τ s).2.2 i from rc_row eMy hs hsm (by omega)) ?_
                        refine x_aload (pc := 101) C 3 dX11_disks_101 rfl ?_
                        refine g_Sheet_row (pc := 103) C E (by omega) q40_9 dX11_disks_103 ?_
                        refine x_iload (pc := 106) C 1 dX11_disks_106 rfl ?_
                        refine x_iconst (pc := 108) (v := (nI 1)) C dX11_disks_108 (by decide) ?_
                        refine x_iadd (pc := 109) C dX11_disks_109 ?_
                        refine x_eq (show (nI i) + (nI 1) = nI (i + 1) from nI_add _ _) ?_
                        refine l_row (pc := 110) C E (by omega) (by omega) dX11_disks_110 ?_
                        refine x_eq (show My (55 + 2 * s) (i + 1) = (sH τ s).2.2 (i + 1) from rc_row eMy hs hsm (by omega)) ?_
                        refine x_callV (pc := 111) C E [.int ((sH τ s).2.2 i), .int ((sH τ s).2.2 (i + 1))] [] (c_X11_bring t eMy _ _) m_X11_bring q18_22 xo_main rfl (by decide) (Nat.le_of_ble_eq_true rfl) dX11_disks_111 rfl (fun r M111 hc111 => ?_)
                        obtain ⟨rfl, hR111⟩ := hc111
                        show XV κ (xP (wC t) M111) 114 _ [.int ((o_disk τ ((sH τ s).2.2 i) ((sH τ s).2.2 (i + 1))).2)]
                        refine x_if_lt (pc := 114) C 120 dX11_disks_114 (by decide) (fun h114 => ?_) (fun h114 => ?_)
                        · refine x_iinc (pc := 120) (v := nI (i + 2)) (L' := [(7, .int (nI (i + 2))), (8, .int (nI j)), (6, .int c), (5, .ref (t.1 (54 + 2 * s))), (0, .ref (t.1 0)), (1, .int (nI s)), (2, .int x2), (3, .int x3), (4, .int (nI n))]) C 1 dX11_disks_120 rfl (nI_add _ 2) (by decide) rfl ?_
                          refine x_iinc (pc := 123) (v := nI (j + 1)) (L' := [(8, .int (nI (j + 1))), (7, .int (nI (i + 2))), (6, .int c), (5, .ref (t.1 (54 + 2 * s))), (0, .ref (t.1 0)), (1, .int (nI s)), (2, .int x2), (3, .int x3), (4, .int (nI n))]) C 1 dX11_disks_123 rfl (nI_1 _) (by decide) rfl ?_
                          refine x_goto (pc := 126) C 71 dX11_disks_126 (by decide) ?_
                          refine x_sub [0, 1, 2, 3, 4, 5, 6, 7, 8] rfl ?_
                          exact ih (j + 1) _ _ _ _ _ (by omega) rfl hR111 ((congrFun (o_disk_H _ _ _) s).trans hst) (by rw [← hg, dkF, if_neg (by rw [h86]; decide), hoi, if_pos h114, show nI i + 2 = nI (i + 2) from nI_add i 2])
                        · refine x_iinc (pc := 117) (v := c + 1) (L' := [(6, .int (c + 1)), (8, .int (nI j)), (7, .int (nI i)), (5, .ref (t.1 (54 + 2 * s))), (0, .ref (t.1 0)), (1, .int (nI s)), (2, .int x2), (3, .int x3), (4, .int (nI n))]) C 2 dX11_disks_117 rfl rfl (by decide) rfl ?_
                          refine x_iinc (pc := 120) (v := nI (i + 2)) (L' := [(7, .int (nI (i + 2))), (6, .int (c + 1)), (8, .int (nI j)), (5, .ref (t.1 (54 + 2 * s))), (0, .ref (t.1 0)), (1, .int (nI s)), (2, .int x2), (3, .int x3), (4, .int (nI n))]) C 2 dX11_disks_120 rfl (nI_add _ 2) (by decide) rfl ?_
                          refine x_iinc (pc := 123) (v := nI (j + 1)) (L' := [(8, .int (nI (j + 1))), (7, .int (nI (i + 2))), (6, .int (c + 1)), (5, .ref (t.1 (54 + 2 * s))), (0, .ref (t.1 0)), (1, .int (nI s)), (2, .int x2), (3, .int x3), (4, .int (nI n))]) C 2 dX11_disks_123 rfl (nI_1 _) (by decide) rfl ?_
                          refine x_goto (pc := 126) C 71 dX11_disks_126 (by decide) ?_
                          refine x_sub [0, 1, 2, 3, 4, 5, 6, 7, 8] rfl ?_
                          exact ih (j + 1) _ _ _ _ _ (by omega) rfl hR111 ((congrFun (o_disk_H _ _ _) s).trans hst) (by rw [← hg, dkF, if_neg (by rw [h86]; decide), hoi, if_neg h114, show nI i + 2 = nI (i + 2) from nI_add i 2])
                      · refine x_bipush (pc := 89) (v := (-12)) C dX11_disks_89 rfl ?_
                        exact x_iret (pc := 91) C X dX11_disks_91 (fin (by
                              unfold o_disks
                              simp only [hos, hon]
                              repeat (first | (refine (if_pos ?_).trans ?_; ((try simp only [inB_t, inB_f, i_lt, i_le, i_eq, ne_eq, Bool.not_eq_true, Bool.not_eq_false, hpB, decide_eq_true_eq, decide_eq_false_iff_not, li_0, li_1, li_2, li_3, li_4, li_5, li_6, li_7, li_8, li_9, li_10, li_20, li_40, li_99, li_100, li_255, li_899, li_999, li_m1, li_m2, li_m3, li_m4, li_m11, li_m12, li_m13, li_m14, li_m100] at h4 hts h8 h13 h18 h25 htn h44 h56 ⊢) <;> omega)) | (refine (if_neg ?_).trans ?_; ((try simp only [inB_t, inB_f, i_lt, i_le, i_eq, ne_eq, Bool.not_eq_true, Bool.not_eq_false, hpB, decide_eq_true_eq, decide_eq_false_iff_not, li_0, li_1, li_2, li_3, li_4, li_5, li_6, li_7, li_8, li_9, li_10, li_20, li_40, li_99, li_100, li_255, li_899, li_999, li_m1, li_m2, li_m3, li_m4, li_m11, li_m12, li_m13, li_m14, li_m100] at h4 hts h8 h13 h18 h25 htn h44 h56 ⊢) <;> omega)) | fail)
                              exact hg.symm.trans (by rw [dkF, if_pos h86])) eMy)
                refine x_sub [0, 1, 2, 3, 4, 5, 6, 7, 8] rfl ?_
                exact loop71 n 0 _ M σ 0 x3 (by omega) rfl h rfl rfl
              · refine x_bipush (pc := 59) (v := (-13)) C dX11_disks_59 rfl ?_
                exact x_iret (pc := 61) C X dX11_disks_61 (fin (by
                      unfold o_disks
                      simp only [hos, hon]
                      repeat (first | with_reducible rfl | (refine (if_pos ?_).trans ?_; ((try simp only [inB_t, inB_f, i_lt, i_le, i_eq, ne_eq, Bool.not_eq_true, Bool.not_eq_false, hpB, decide_eq_true_eq, decide_eq_false_iff_not, li_0, li_1, li_2, li_3, li_4, li_5, li_6, li_7, li_8, li_9, li_10, li_20, li_40, li_99, li_100, li_255, li_899, li_999, li_m1, li_m2, li_m3, li_m4, li_m11, li_m12, li_m13, li_m14, li_m100] at h4 hts h8 h13 h18 h25 htn h44 h56 ⊢) <;> omega)) | (refine (if_neg ?_).trans ?_; ((try simp only [inB_t, inB_f, i_lt, i_le, i_eq, ne_eq, Bool.not_eq_true, Bool.not_eq_false, hpB, decide_eq_true_eq, decide_eq_false_iff_not, li_0, li_1, li_2, li_3, li_4, li_5, li_6, li_7, li_8, li_9, li_10, li_20, li_40, li_99, li_100, li_255, li_899, li_999, li_m1, li_m2, li_m3, li_m4, li_m11, li_m12, li_m13, li_m14, li_m100] at h4 hts h8 h13 h18 h25 htn h44 h56 ⊢) <;> omega)) | fail)
                      all_goals (first | with_reducible rfl | (exfalso; ((try simp only [inB_t, inB_f, i_lt, i_le, i_eq, ne_eq, Bool.not_eq_true, Bool.not_eq_false, hpB, decide_eq_true_eq, decide_eq_false_iff_not, li_0, li_1, li_2, li_3, li_4, li_5, li_6, li_7, li_8, li_9, li_10, li_20, li_40, li_99, li_100, li_255, li_899, li_999, li_m1, li_m2, li_m3, li_m4, li_m11, li_m12, li_m13, li_m14, li_m100] at h4 hts h8 h13 h18 h25 htn h44 h56 ⊢) <;> omega)))) h)
            · refine x_bipush (pc := 47) (v := (-11)) C dX11_disks_47 rfl ?_
              exact x_iret (pc := 49) C X dX11_disks_49 (fin (by
                    unfold o_disks
                    simp only [hos, hon]
                    repeat (first | with_reducible rfl | (refine (if_pos ?_).trans ?_; ((try simp only [inB_t, inB_f, i_lt, i_le, i_eq, ne_eq, Bool.not_eq_true, Bool.not_eq_false, hpB, decide_eq_true_eq, decide_eq_false_iff_not, li_0, li_1, li_2, li_3, li_4, li_5, li_6, li_7, li_8, li_9, li_10, li_20, li_40, li_99, li_100, li_255, li_899, li_999, li_m1, li_m2, li_m3, li_m4, li_m11, li_m12, li_m13, li_m14, li_m100] at h4 hts h8 h13 h18 h25 htn h44 ⊢) <;> omega)) | (refine (if_neg ?_).trans ?_; ((try simp only [inB_t, inB_f, i_lt, i_le, i_eq, ne_eq, Bool.not_eq_true, Bool.not_eq_false, hpB, decide_eq_true_eq, decide_eq_false_iff_not, li_0, li_1, li_2, li_3, li_4, li_5, li_6, li_7, li_8, li_9, li_10, li_20, li_40, li_99, li_100, li_255, li_899, li_999, li_m1, li_m2, li_m3, li_m4, li_m11, li_m12, li_m13, li_m14, li_m100] at h4 hts h8 h13 h18 h25 htn h44 ⊢) <;> omega)) | fail)
                    all_goals (first | with_reducible rfl | (exfalso; ((try simp only [inB_t, inB_f, i_lt, i_le, i_eq, ne_eq, Bool.not_eq_true, Bool.not_eq_false, hpB, decide_eq_true_eq, decide_eq_false_iff_not, li_0, li_1, li_2, li_3, li_4, li_5, li_6, li_7, li_8, li_9, li_10, li_20, li_40, li_99, li_100, li_255, li_899, li_999, li_m1, li_m2, li_m3, li_m4, li_m11, li_m12, li_m13, li_m14, li_m100] at h4 hts h8 h13 h18 h25 htn h44 ⊢) <;> omega)))) h)
          · refine x_bipush (pc := 28) (v := (-2)) C dX11_disks_28 rfl ?_
            exact x_iret (pc := 30) C X dX11_disks_30 (fin (by
                  unfold o_disks
                  simp only [hos]
                  repeat (first | with_reducible rfl | (refine (if_pos ?_).trans ?_; ((try simp only [inB_t, inB_f, i_lt, i_le, i_eq, ne_eq, Bool.not_eq_true, Bool.not_eq_false, hpB, decide_eq_true_eq, decide_eq_false_iff_not, li_0, li_1, li_2, li_3, li_4, li_5, li_6, li_7, li_8, li_9, li_10, li_20, li_40, li_99, li_100, li_255, li_899, li_999, li_m1, li_m2, li_m3, li_m4, li_m11, li_m12, li_m13, li_m14, li_m100] at h4 hts h8 h13 h18 h25 ⊢) <;> omega)) | (refine (if_neg ?_).trans ?_; ((try simp only [inB_t, inB_f, i_lt, i_le, i_eq, ne_eq, Bool.not_eq_true, Bool.not_eq_false, hpB, decide_eq_true_eq, decide_eq_false_iff_not, li_0, li_1, li_2, li_3, li_4, li_5, li_6, li_7, li_8, li_9, li_10, li_20, li_40, li_99, li_100, li_255, li_899, li_999, li_m1, li_m2, li_m3, li_m4, li_m11, li_m12, li_m13, li_m14, li_m100] at h4 hts h8 h13 h18 h25 ⊢) <;> omega)) | fail)
                  all_goals (first | with_reducible rfl | (exfalso; ((try simp only [inB_t, inB_f, i_lt, i_le, i_eq, ne_eq, Bool.not_eq_true, Bool.not_eq_false, hpB, decide_eq_true_eq, decide_eq_false_iff_not, li_0, li_1, li_2, li_3, li_4, li_5, li_6, li_7, li_8, li_9, li_10, li_20, li_40, li_99, li_100, li_255, li_899, li_999, li_m1, li_m2, li_m3, li_m4, li_m11, li_m12, li_m13, li_m14, li_m100] at h4 hts h8 h13 h18 h25 ⊢) <;> omega)))) h)

